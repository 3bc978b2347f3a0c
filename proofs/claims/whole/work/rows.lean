section
-- ===== PART A: goes FIRST, ahead of the names: the tables' words, and 'selects' of the private methods out of them =====
/-- a private method of a class that the tables say can be made, by its rows of tables_1 -/
def lw_okq (q : MethodName × Nat) : Prop := (q.1.cls ≠ "java/lang/invoke/MethodHandle" ∧ q.1.cls ≠ "java/lang/invoke/VarHandle") ∧ Cond.instantiable q.1.cls q.2 ∈ tables_1 ∧ Cond.privateMethod q.1 ∈ tables_1 ∧ Cond.instanceMethod q.1 ∈ tables_1
theorem lw_p0 : lw_okq (⟨"GalleryBirds", "faulted", "(I)I"⟩, 11) := ⟨⟨by decide +kernel, by decide +kernel⟩, List.mem_of_getElem? (i := 13) (by decide +kernel), List.mem_of_getElem? (i := 204) (by decide +kernel), List.mem_of_getElem? (i := 205) (by decide +kernel)⟩
theorem lw_p1 : lw_okq (⟨"GalleryBirds", "makeAnew", "([III)V"⟩, 11) := ⟨⟨by decide +kernel, by decide +kernel⟩, List.mem_of_getElem? (i := 13) (by decide +kernel), List.mem_of_getElem? (i := 223) (by decide +kernel), List.mem_of_getElem? (i := 224) (by decide +kernel)⟩
theorem lw_p2 : lw_okq (⟨"GalleryBirds", "isDoor", "(I)Z"⟩, 11) := ⟨⟨by decide +kernel, by decide +kernel⟩, List.mem_of_getElem? (i := 13) (by decide +kernel), List.mem_of_getElem? (i := 230) (by decide +kernel), List.mem_of_getElem? (i := 231) (by decide +kernel)⟩
theorem lw_p3 : lw_okq (⟨"GalleryBirds", "isGallery", "(I)Z"⟩, 11) := ⟨⟨by decide +kernel, by decide +kernel⟩, List.mem_of_getElem? (i := 13) (by decide +kernel), List.mem_of_getElem? (i := 238) (by decide +kernel), List.mem_of_getElem? (i := 239) (by decide +kernel)⟩
theorem lw_p4 : lw_okq (⟨"GalleryBirds", "isWord", "(I)Z"⟩, 11) := ⟨⟨by decide +kernel, by decide +kernel⟩, List.mem_of_getElem? (i := 13) (by decide +kernel), List.mem_of_getElem? (i := 253) (by decide +kernel), List.mem_of_getElem? (i := 254) (by decide +kernel)⟩
theorem lw_p5 : lw_okq (⟨"GalleryBirds$Pit", "dropBirds", "(LGalleryBirds$Air;)I"⟩, 6) := ⟨⟨by decide +kernel, by decide +kernel⟩, List.mem_of_getElem? (i := 23) (by decide +kernel), List.mem_of_getElem? (i := 295) (by decide +kernel), List.mem_of_getElem? (i := 296) (by decide +kernel)⟩
theorem lw_p6 : lw_okq (⟨"GalleryBirds", "hasMine", "()Z"⟩, 11) := ⟨⟨by decide +kernel, by decide +kernel⟩, List.mem_of_getElem? (i := 13) (by decide +kernel), List.mem_of_getElem? (i := 308) (by decide +kernel), List.mem_of_getElem? (i := 309) (by decide +kernel)⟩
theorem lw_p7 : lw_okq (⟨"GalleryBirds", "takePairs", "(LGalleryBirds$Sheet;III)I"⟩, 11) := ⟨⟨by decide +kernel, by decide +kernel⟩, List.mem_of_getElem? (i := 13) (by decide +kernel), List.mem_of_getElem? (i := 331) (by decide +kernel), List.mem_of_getElem? (i := 332) (by decide +kernel)⟩
theorem lw_p8 : lw_okq (⟨"GalleryBirds", "foulTogether", "(LGalleryBirds$Air;)I"⟩, 11) := ⟨⟨by decide +kernel, by decide +kernel⟩, List.mem_of_getElem? (i := 13) (by decide +kernel), List.mem_of_getElem? (i := 342) (by decide +kernel), List.mem_of_getElem? (i := 343) (by decide +kernel)⟩
theorem lw_p9 : lw_okq (⟨"GalleryBirds", "dropsWithDoors", "(I)I"⟩, 11) := ⟨⟨by decide +kernel, by decide +kernel⟩, List.mem_of_getElem? (i := 13) (by decide +kernel), List.mem_of_getElem? (i := 357) (by decide +kernel), List.mem_of_getElem? (i := 358) (by decide +kernel)⟩
theorem lw_p10 : lw_okq (⟨"GalleryBirds", "airBehind", "(II)LGalleryBirds$Air;"⟩, 11) := ⟨⟨by decide +kernel, by decide +kernel⟩, List.mem_of_getElem? (i := 13) (by decide +kernel), List.mem_of_getElem? (i := 386) (by decide +kernel), List.mem_of_getElem? (i := 387) (by decide +kernel)⟩
theorem lw_p11 : lw_okq (⟨"GalleryBirds", "isAsTold", "([IILGalleryBirds$Air;)Z"⟩, 11) := ⟨⟨by decide +kernel, by decide +kernel⟩, List.mem_of_getElem? (i := 13) (by decide +kernel), List.mem_of_getElem? (i := 390) (by decide +kernel), List.mem_of_getElem? (i := 391) (by decide +kernel)⟩
theorem lw_p12 : lw_okq (⟨"GalleryBirds", "brightBody", "(I)I"⟩, 11) := ⟨⟨by decide +kernel, by decide +kernel⟩, List.mem_of_getElem? (i := 13) (by decide +kernel), List.mem_of_getElem? (i := 461) (by decide +kernel), List.mem_of_getElem? (i := 462) (by decide +kernel)⟩
theorem lw_p13 : lw_okq (⟨"GalleryBirds", "leave", "(I)V"⟩, 11) := ⟨⟨by decide +kernel, by decide +kernel⟩, List.mem_of_getElem? (i := 13) (by decide +kernel), List.mem_of_getElem? (i := 465) (by decide +kernel), List.mem_of_getElem? (i := 466) (by decide +kernel)⟩
theorem lw_p14 : lw_okq (⟨"GalleryBirds", "greenBody", "(I)I"⟩, 11) := ⟨⟨by decide +kernel, by decide +kernel⟩, List.mem_of_getElem? (i := 13) (by decide +kernel), List.mem_of_getElem? (i := 469) (by decide +kernel), List.mem_of_getElem? (i := 470) (by decide +kernel)⟩
theorem lw_p15 : lw_okq (⟨"GalleryBirds", "greyBody", "(I)I"⟩, 11) := ⟨⟨by decide +kernel, by decide +kernel⟩, List.mem_of_getElem? (i := 13) (by decide +kernel), List.mem_of_getElem? (i := 473) (by decide +kernel), List.mem_of_getElem? (i := 474) (by decide +kernel)⟩
def lw_privs_1 : List (MethodName × Nat) := [(⟨"GalleryBirds", "faulted", "(I)I"⟩, 11), (⟨"GalleryBirds", "makeAnew", "([III)V"⟩, 11), (⟨"GalleryBirds", "isDoor", "(I)Z"⟩, 11), (⟨"GalleryBirds", "isGallery", "(I)Z"⟩, 11), (⟨"GalleryBirds", "isWord", "(I)Z"⟩, 11), (⟨"GalleryBirds$Pit", "dropBirds", "(LGalleryBirds$Air;)I"⟩, 6), (⟨"GalleryBirds", "hasMine", "()Z"⟩, 11), (⟨"GalleryBirds", "takePairs", "(LGalleryBirds$Sheet;III)I"⟩, 11), (⟨"GalleryBirds", "foulTogether", "(LGalleryBirds$Air;)I"⟩, 11), (⟨"GalleryBirds", "dropsWithDoors", "(I)I"⟩, 11), (⟨"GalleryBirds", "airBehind", "(II)LGalleryBirds$Air;"⟩, 11), (⟨"GalleryBirds", "isAsTold", "([IILGalleryBirds$Air;)Z"⟩, 11), (⟨"GalleryBirds", "brightBody", "(I)I"⟩, 11), (⟨"GalleryBirds", "leave", "(I)V"⟩, 11), (⟨"GalleryBirds", "greenBody", "(I)I"⟩, 11), (⟨"GalleryBirds", "greyBody", "(I)I"⟩, 11)]
theorem lw_r1 : ∀ q ∈ lw_privs_1, lw_okq q := List.forall_mem_cons.mpr ⟨lw_p0, List.forall_mem_cons.mpr ⟨lw_p1, List.forall_mem_cons.mpr ⟨lw_p2, List.forall_mem_cons.mpr ⟨lw_p3, List.forall_mem_cons.mpr ⟨lw_p4, List.forall_mem_cons.mpr ⟨lw_p5, List.forall_mem_cons.mpr ⟨lw_p6, List.forall_mem_cons.mpr ⟨lw_p7, List.forall_mem_cons.mpr ⟨lw_p8, List.forall_mem_cons.mpr ⟨lw_p9, List.forall_mem_cons.mpr ⟨lw_p10, List.forall_mem_cons.mpr ⟨lw_p11, List.forall_mem_cons.mpr ⟨lw_p12, List.forall_mem_cons.mpr ⟨lw_p13, List.forall_mem_cons.mpr ⟨lw_p14, List.forall_mem_cons.mpr ⟨lw_p15, fun _ h => absurd h List.not_mem_nil⟩⟩⟩⟩⟩⟩⟩⟩⟩⟩⟩⟩⟩⟩⟩⟩
theorem lw_p16 : lw_okq (⟨"GalleryBirds", "brightSignature", "()I"⟩, 11) := ⟨⟨by decide +kernel, by decide +kernel⟩, List.mem_of_getElem? (i := 13) (by decide +kernel), List.mem_of_getElem? (i := 481) (by decide +kernel), List.mem_of_getElem? (i := 482) (by decide +kernel)⟩
theorem lw_p17 : lw_okq (⟨"GalleryBirds", "lentSignature", "(I)I"⟩, 11) := ⟨⟨by decide +kernel, by decide +kernel⟩, List.mem_of_getElem? (i := 13) (by decide +kernel), List.mem_of_getElem? (i := 485) (by decide +kernel), List.mem_of_getElem? (i := 486) (by decide +kernel)⟩
theorem lw_p18 : lw_okq (⟨"GalleryBirdsModel", "against", "(IIII)I"⟩, 29) := ⟨⟨by decide +kernel, by decide +kernel⟩, List.mem_of_getElem? (i := 505) (by decide +kernel), List.mem_of_getElem? (i := 612) (by decide +kernel), List.mem_of_getElem? (i := 613) (by decide +kernel)⟩
theorem lw_p19 : lw_okq (⟨"GalleryBirdsModel", "fails", "(I)I"⟩, 29) := ⟨⟨by decide +kernel, by decide +kernel⟩, List.mem_of_getElem? (i := 505) (by decide +kernel), List.mem_of_getElem? (i := 616) (by decide +kernel), List.mem_of_getElem? (i := 617) (by decide +kernel)⟩
theorem lw_p20 : lw_okq (⟨"GalleryBirdsModel", "readMine", "(I)Z"⟩, 29) := ⟨⟨by decide +kernel, by decide +kernel⟩, List.mem_of_getElem? (i := 505) (by decide +kernel), List.mem_of_getElem? (i := 620) (by decide +kernel), List.mem_of_getElem? (i := 621) (by decide +kernel)⟩
theorem lw_p21 : lw_okq (⟨"GalleryBirdsModel", "isSign", "(II)Z"⟩, 29) := ⟨⟨by decide +kernel, by decide +kernel⟩, List.mem_of_getElem? (i := 505) (by decide +kernel), List.mem_of_getElem? (i := 624) (by decide +kernel), List.mem_of_getElem? (i := 625) (by decide +kernel)⟩
theorem lw_p22 : lw_okq (⟨"GalleryBirdsModel", "readTheWords", "(I)Z"⟩, 29) := ⟨⟨by decide +kernel, by decide +kernel⟩, List.mem_of_getElem? (i := 505) (by decide +kernel), List.mem_of_getElem? (i := 628) (by decide +kernel), List.mem_of_getElem? (i := 629) (by decide +kernel)⟩
theorem lw_p23 : lw_okq (⟨"GalleryBirdsModel", "digit", "(III)I"⟩, 29) := ⟨⟨by decide +kernel, by decide +kernel⟩, List.mem_of_getElem? (i := 505) (by decide +kernel), List.mem_of_getElem? (i := 632) (by decide +kernel), List.mem_of_getElem? (i := 633) (by decide +kernel)⟩
theorem lw_p24 : lw_okq (⟨"GalleryBirdsModel", "readGallery", "(I)Z"⟩, 29) := ⟨⟨by decide +kernel, by decide +kernel⟩, List.mem_of_getElem? (i := 505) (by decide +kernel), List.mem_of_getElem? (i := 636) (by decide +kernel), List.mem_of_getElem? (i := 637) (by decide +kernel)⟩
theorem lw_p25 : lw_okq (⟨"GalleryBirdsModel", "takeMine", "()V"⟩, 29) := ⟨⟨by decide +kernel, by decide +kernel⟩, List.mem_of_getElem? (i := 505) (by decide +kernel), List.mem_of_getElem? (i := 640) (by decide +kernel), List.mem_of_getElem? (i := 641) (by decide +kernel)⟩
theorem lw_p26 : lw_okq (⟨"GalleryBirdsModel", "isGallery", "(I)Z"⟩, 29) := ⟨⟨by decide +kernel, by decide +kernel⟩, List.mem_of_getElem? (i := 505) (by decide +kernel), List.mem_of_getElem? (i := 648) (by decide +kernel), List.mem_of_getElem? (i := 649) (by decide +kernel)⟩
theorem lw_p27 : lw_okq (⟨"GalleryBirdsModel", "bearsOf", "(I)I"⟩, 29) := ⟨⟨by decide +kernel, by decide +kernel⟩, List.mem_of_getElem? (i := 505) (by decide +kernel), List.mem_of_getElem? (i := 652) (by decide +kernel), List.mem_of_getElem? (i := 653) (by decide +kernel)⟩
theorem lw_p28 : lw_okq (⟨"GalleryBirdsModel", "isDoor", "(I)Z"⟩, 29) := ⟨⟨by decide +kernel, by decide +kernel⟩, List.mem_of_getElem? (i := 505) (by decide +kernel), List.mem_of_getElem? (i := 659) (by decide +kernel), List.mem_of_getElem? (i := 660) (by decide +kernel)⟩
theorem lw_p29 : lw_okq (⟨"GalleryBirdsModel", "isWord", "(I)Z"⟩, 29) := ⟨⟨by decide +kernel, by decide +kernel⟩, List.mem_of_getElem? (i := 505) (by decide +kernel), List.mem_of_getElem? (i := 667) (by decide +kernel), List.mem_of_getElem? (i := 668) (by decide +kernel)⟩
theorem lw_p30 : lw_okq (⟨"GalleryBirdsModel", "breathe", "(II)I"⟩, 29) := ⟨⟨by decide +kernel, by decide +kernel⟩, List.mem_of_getElem? (i := 505) (by decide +kernel), List.mem_of_getElem? (i := 687) (by decide +kernel), List.mem_of_getElem? (i := 688) (by decide +kernel)⟩
theorem lw_p31 : lw_okq (⟨"GalleryBirdsModel", "sayIn", "(II)V"⟩, 29) := ⟨⟨by decide +kernel, by decide +kernel⟩, List.mem_of_getElem? (i := 505) (by decide +kernel), List.mem_of_getElem? (i := 691) (by decide +kernel), List.mem_of_getElem? (i := 692) (by decide +kernel)⟩
def lw_privs_2 : List (MethodName × Nat) := [(⟨"GalleryBirds", "brightSignature", "()I"⟩, 11), (⟨"GalleryBirds", "lentSignature", "(I)I"⟩, 11), (⟨"GalleryBirdsModel", "against", "(IIII)I"⟩, 29), (⟨"GalleryBirdsModel", "fails", "(I)I"⟩, 29), (⟨"GalleryBirdsModel", "readMine", "(I)Z"⟩, 29), (⟨"GalleryBirdsModel", "isSign", "(II)Z"⟩, 29), (⟨"GalleryBirdsModel", "readTheWords", "(I)Z"⟩, 29), (⟨"GalleryBirdsModel", "digit", "(III)I"⟩, 29), (⟨"GalleryBirdsModel", "readGallery", "(I)Z"⟩, 29), (⟨"GalleryBirdsModel", "takeMine", "()V"⟩, 29), (⟨"GalleryBirdsModel", "isGallery", "(I)Z"⟩, 29), (⟨"GalleryBirdsModel", "bearsOf", "(I)I"⟩, 29), (⟨"GalleryBirdsModel", "isDoor", "(I)Z"⟩, 29), (⟨"GalleryBirdsModel", "isWord", "(I)Z"⟩, 29), (⟨"GalleryBirdsModel", "breathe", "(II)I"⟩, 29), (⟨"GalleryBirdsModel", "sayIn", "(II)V"⟩, 29)]
theorem lw_r2 : ∀ q ∈ lw_privs_2, lw_okq q := List.forall_mem_cons.mpr ⟨lw_p16, List.forall_mem_cons.mpr ⟨lw_p17, List.forall_mem_cons.mpr ⟨lw_p18, List.forall_mem_cons.mpr ⟨lw_p19, List.forall_mem_cons.mpr ⟨lw_p20, List.forall_mem_cons.mpr ⟨lw_p21, List.forall_mem_cons.mpr ⟨lw_p22, List.forall_mem_cons.mpr ⟨lw_p23, List.forall_mem_cons.mpr ⟨lw_p24, List.forall_mem_cons.mpr ⟨lw_p25, List.forall_mem_cons.mpr ⟨lw_p26, List.forall_mem_cons.mpr ⟨lw_p27, List.forall_mem_cons.mpr ⟨lw_p28, List.forall_mem_cons.mpr ⟨lw_p29, List.forall_mem_cons.mpr ⟨lw_p30, List.forall_mem_cons.mpr ⟨lw_p31, fun _ h => absurd h List.not_mem_nil⟩⟩⟩⟩⟩⟩⟩⟩⟩⟩⟩⟩⟩⟩⟩⟩
theorem lw_p32 : lw_okq (⟨"GalleryBirdsModel", "pass", "()I"⟩, 29) := ⟨⟨by decide +kernel, by decide +kernel⟩, List.mem_of_getElem? (i := 505) (by decide +kernel), List.mem_of_getElem? (i := 695) (by decide +kernel), List.mem_of_getElem? (i := 696) (by decide +kernel)⟩
theorem lw_p33 : lw_okq (⟨"GalleryBirdsModel", "drop", "()I"⟩, 29) := ⟨⟨by decide +kernel, by decide +kernel⟩, List.mem_of_getElem? (i := 505) (by decide +kernel), List.mem_of_getElem? (i := 702) (by decide +kernel), List.mem_of_getElem? (i := 703) (by decide +kernel)⟩
theorem lw_p34 : lw_okq (⟨"GalleryBirdsModel", "refuses", "(IIIIIZ)I"⟩, 29) := ⟨⟨by decide +kernel, by decide +kernel⟩, List.mem_of_getElem? (i := 505) (by decide +kernel), List.mem_of_getElem? (i := 721) (by decide +kernel), List.mem_of_getElem? (i := 722) (by decide +kernel)⟩
theorem lw_p35 : lw_okq (⟨"GalleryBirdsModel", "refusesPairs", "(II)I"⟩, 29) := ⟨⟨by decide +kernel, by decide +kernel⟩, List.mem_of_getElem? (i := 505) (by decide +kernel), List.mem_of_getElem? (i := 725) (by decide +kernel), List.mem_of_getElem? (i := 726) (by decide +kernel)⟩
theorem lw_p36 : lw_okq (⟨"GalleryBirdsModel", "keep", "()V"⟩, 29) := ⟨⟨by decide +kernel, by decide +kernel⟩, List.mem_of_getElem? (i := 505) (by decide +kernel), List.mem_of_getElem? (i := 729) (by decide +kernel), List.mem_of_getElem? (i := 730) (by decide +kernel)⟩
theorem lw_p37 : lw_okq (⟨"GalleryBirdsModel", "goShift", "(II)V"⟩, 29) := ⟨⟨by decide +kernel, by decide +kernel⟩, List.mem_of_getElem? (i := 505) (by decide +kernel), List.mem_of_getElem? (i := 733) (by decide +kernel), List.mem_of_getElem? (i := 734) (by decide +kernel)⟩
theorem lw_p38 : lw_okq (⟨"GalleryBirdsModel", "tellShift", "(I)I"⟩, 29) := ⟨⟨by decide +kernel, by decide +kernel⟩, List.mem_of_getElem? (i := 505) (by decide +kernel), List.mem_of_getElem? (i := 737) (by decide +kernel), List.mem_of_getElem? (i := 738) (by decide +kernel)⟩
theorem lw_p39 : lw_okq (⟨"GalleryBirdsModel", "putBack", "()V"⟩, 29) := ⟨⟨by decide +kernel, by decide +kernel⟩, List.mem_of_getElem? (i := 505) (by decide +kernel), List.mem_of_getElem? (i := 741) (by decide +kernel), List.mem_of_getElem? (i := 742) (by decide +kernel)⟩
theorem lw_p40 : lw_okq (⟨"GalleryBirdsModel", "orderOf", "(II)V"⟩, 29) := ⟨⟨by decide +kernel, by decide +kernel⟩, List.mem_of_getElem? (i := 505) (by decide +kernel), List.mem_of_getElem? (i := 752) (by decide +kernel), List.mem_of_getElem? (i := 753) (by decide +kernel)⟩
theorem lw_p41 : lw_okq (⟨"GalleryBirdsModel", "isQuiet", "(II)Z"⟩, 29) := ⟨⟨by decide +kernel, by decide +kernel⟩, List.mem_of_getElem? (i := 505) (by decide +kernel), List.mem_of_getElem? (i := 756) (by decide +kernel), List.mem_of_getElem? (i := 757) (by decide +kernel)⟩
theorem lw_p42 : lw_okq (⟨"GalleryBirdsModel", "findPerches", "()I"⟩, 29) := ⟨⟨by decide +kernel, by decide +kernel⟩, List.mem_of_getElem? (i := 505) (by decide +kernel), List.mem_of_getElem? (i := 776) (by decide +kernel), List.mem_of_getElem? (i := 777) (by decide +kernel)⟩
theorem lw_p43 : lw_okq (⟨"GalleryBirdsModel", "isFound", "(III)Z"⟩, 29) := ⟨⟨by decide +kernel, by decide +kernel⟩, List.mem_of_getElem? (i := 505) (by decide +kernel), List.mem_of_getElem? (i := 784) (by decide +kernel), List.mem_of_getElem? (i := 785) (by decide +kernel)⟩
theorem lw_p44 : lw_okq (⟨"GalleryBirdsModel", "areSo", "()Z"⟩, 29) := ⟨⟨by decide +kernel, by decide +kernel⟩, List.mem_of_getElem? (i := 505) (by decide +kernel), List.mem_of_getElem? (i := 800) (by decide +kernel), List.mem_of_getElem? (i := 801) (by decide +kernel)⟩
theorem lw_p45 : lw_okq (⟨"GalleryBirdsModel", "lost", "(I)J"⟩, 29) := ⟨⟨by decide +kernel, by decide +kernel⟩, List.mem_of_getElem? (i := 505) (by decide +kernel), List.mem_of_getElem? (i := 832) (by decide +kernel), List.mem_of_getElem? (i := 833) (by decide +kernel)⟩
theorem lw_p46 : lw_okq (⟨"GalleryBirdsModel", "begins", "(I)V"⟩, 29) := ⟨⟨by decide +kernel, by decide +kernel⟩, List.mem_of_getElem? (i := 505) (by decide +kernel), List.mem_of_getElem? (i := 844) (by decide +kernel), List.mem_of_getElem? (i := 845) (by decide +kernel)⟩
def lw_privs_3 : List (MethodName × Nat) := [(⟨"GalleryBirdsModel", "pass", "()I"⟩, 29), (⟨"GalleryBirdsModel", "drop", "()I"⟩, 29), (⟨"GalleryBirdsModel", "refuses", "(IIIIIZ)I"⟩, 29), (⟨"GalleryBirdsModel", "refusesPairs", "(II)I"⟩, 29), (⟨"GalleryBirdsModel", "keep", "()V"⟩, 29), (⟨"GalleryBirdsModel", "goShift", "(II)V"⟩, 29), (⟨"GalleryBirdsModel", "tellShift", "(I)I"⟩, 29), (⟨"GalleryBirdsModel", "putBack", "()V"⟩, 29), (⟨"GalleryBirdsModel", "orderOf", "(II)V"⟩, 29), (⟨"GalleryBirdsModel", "isQuiet", "(II)Z"⟩, 29), (⟨"GalleryBirdsModel", "findPerches", "()I"⟩, 29), (⟨"GalleryBirdsModel", "isFound", "(III)Z"⟩, 29), (⟨"GalleryBirdsModel", "areSo", "()Z"⟩, 29), (⟨"GalleryBirdsModel", "lost", "(I)J"⟩, 29), (⟨"GalleryBirdsModel", "begins", "(I)V"⟩, 29)]
theorem lw_r3 : ∀ q ∈ lw_privs_3, lw_okq q := List.forall_mem_cons.mpr ⟨lw_p32, List.forall_mem_cons.mpr ⟨lw_p33, List.forall_mem_cons.mpr ⟨lw_p34, List.forall_mem_cons.mpr ⟨lw_p35, List.forall_mem_cons.mpr ⟨lw_p36, List.forall_mem_cons.mpr ⟨lw_p37, List.forall_mem_cons.mpr ⟨lw_p38, List.forall_mem_cons.mpr ⟨lw_p39, List.forall_mem_cons.mpr ⟨lw_p40, List.forall_mem_cons.mpr ⟨lw_p41, List.forall_mem_cons.mpr ⟨lw_p42, List.forall_mem_cons.mpr ⟨lw_p43, List.forall_mem_cons.mpr ⟨lw_p44, List.forall_mem_cons.mpr ⟨lw_p45, List.forall_mem_cons.mpr ⟨lw_p46, fun _ h => absurd h List.not_mem_nil⟩⟩⟩⟩⟩⟩⟩⟩⟩⟩⟩⟩⟩⟩⟩
def lw_privs : List (MethodName × Nat) := lw_privs_1 ++ (lw_privs_2 ++ (lw_privs_3))
def lw_tbl : List Cond := k2_sels lw_privs ++ tables_1
theorem lw_privs_ok : ∀ q ∈ lw_privs, lw_okq q := by
  show ∀ q ∈ lw_privs_1 ++ (lw_privs_2 ++ (lw_privs_3)), lw_okq q
  exact List.forall_mem_append.mpr ⟨lw_r1, List.forall_mem_append.mpr ⟨lw_r2, lw_r3⟩⟩
end
section
/-! ===== BEGIN words of one list among another's, by their places ===== -/
theorem goodIn_r {big : List Cond} (ws : List Cond) (ps : List Nat) (hp : ws = ps.filterMap (fun i => big[i]?)) (h : ws.all goodWord = true) : GoodIn big ws := by
  intro w hw
  have h1 := List.all_eq_true.mp h w hw
  rw [hp] at hw
  obtain ⟨i, -, hi⟩ := List.mem_filterMap.mp hw
  have hm : w ∈ big := by first | exact List.mem_of_getElem? hi | exact List.getElem?_mem hi
  exact ⟨hm, good_of_word h1⟩
theorem goodIn_app {big a b : List Cond} (ha : GoodIn big a) (hb : GoodIn big b) : GoodIn big (a ++ b) := fun w h => (List.mem_append.mp h).elim (ha w) (hb w)
theorem goodIn_ca {big a b : List Cond} {c : Cond} (ha : GoodIn big (c :: a)) (hb : GoodIn big b) : GoodIn big (c :: (a ++ b)) := fun w h => (List.mem_cons.mp h).elim (fun e => ha w (List.mem_cons.mpr (Or.inl e))) (fun h => (List.mem_append.mp h).elim (fun h => ha w (List.mem_cons.mpr (Or.inr h))) (hb w))
theorem goodIn_sub {big ws : List Cond} (hm : ∀ w ∈ ws, w ∈ big) (h : ws.all goodWord = true) : GoodIn big ws := fun w hw => ⟨hm w hw, good_of_word (List.all_eq_true.mp h w hw)⟩
/-! ===== END ===== -/

/-! ===== BEGIN printed: names, fields, word lists, decode rows ===== -/
def RX0 : String := "GalleryBirds$Air"
def TX0 : u_T := fun k => match k with
  | 0 => ("GalleryBirds$Air", "fouls", "[I", true)
  | _ => ("GalleryBirds$Air", "down", "I", false)
def tyX0 : Nat → FieldType := fun k => match k with
  | 0 => .array .int
  | _ => .int
abbrev wsX00 : List Cond := u_ws RX0 TX0 2
theorem nmX0 : ∀ a, a < 2 → ∀ b, b < 2 → a ≠ b → (TX0 a).2.1 ≠ (TX0 b).2.1 := by decide +kernel
theorem tyX0_ok : ∀ k, k < 2 → parseFieldDescriptor (TX0 k).2.2.1 = some (tyX0 k) := by decide +kernel
abbrev cX0_init : ByteArray := prog_2_method_1_code
def yX0_init : MethodName := ⟨RX0, "<init>", "()V"⟩
abbrev cX0_isDown : ByteArray := prog_2_method_2_code
def yX0_isDown : MethodName := ⟨RX0, "isDown", "(I)Z"⟩
abbrev cX0_becomeLike : ByteArray := prog_2_method_3_code
def yX0_becomeLike : MethodName := ⟨RX0, "becomeLike", "(LGalleryBirds$Air;)V"⟩
def RX1 : String := "GalleryBirds$Pairs"
def TX1 : u_T := fun k => match k with
  | 0 => ("GalleryBirds$Pairs", "count", "I", false)
  | 1 => ("GalleryBirds$Pairs", "galleries", "[I", true)
  | _ => ("GalleryBirds$Pairs", "words", "[I", true)
def tyX1 : Nat → FieldType := fun k => match k with
  | 0 => .int
  | 1 => .array .int
  | _ => .array .int
abbrev wsX10 : List Cond := u_ws RX1 TX1 3
theorem nmX1 : ∀ a, a < 3 → ∀ b, b < 3 → a ≠ b → (TX1 a).2.1 ≠ (TX1 b).2.1 := by decide +kernel
theorem tyX1_ok : ∀ k, k < 3 → parseFieldDescriptor (TX1 k).2.2.1 = some (tyX1 k) := by decide +kernel
abbrev cX1_init : ByteArray := prog_3_method_1_code
def yX1_init : MethodName := ⟨RX1, "<init>", "()V"⟩
def RX2 : String := "GalleryBirds$Pit"
def TX2 : u_T := fun k => match k with
  | 0 => ("GalleryBirds$Pit", "galleries", "I", false)
  | 1 => ("GalleryBirds$Pit", "words", "I", false)
  | 2 => ("GalleryBirds$Pit", "bads", "[I", true)
  | 3 => ("GalleryBirds$Pit", "kinds", "[I", true)
  | 4 => ("GalleryBirds$Pit", "strengths", "[I", true)
  | _ => ("GalleryBirds$Pit", "doors", "I", false)
def tyX2 : Nat → FieldType := fun k => match k with
  | 0 => .int
  | 1 => .int
  | 2 => .array .int
  | 3 => .array .int
  | 4 => .array .int
  | _ => .int
abbrev wsX20 : List Cond := u_ws RX2 TX2 6
theorem nmX2 : ∀ a, a < 6 → ∀ b, b < 6 → a ≠ b → (TX2 a).2.1 ≠ (TX2 b).2.1 := by decide +kernel
theorem tyX2_ok : ∀ k, k < 6 → parseFieldDescriptor (TX2 k).2.2.1 = some (tyX2 k) := by decide +kernel
abbrev cX2_init : ByteArray := prog_4_method_1_code
def yX2_init : MethodName := ⟨RX2, "<init>", "()V"⟩
abbrev cX2_bears : ByteArray := prog_4_method_2_code
def yX2_bears : MethodName := ⟨RX2, "bears", "(I)I"⟩
abbrev cX2_breathe : ByteArray := prog_4_method_3_code
def yX2_breathe : MethodName := ⟨RX2, "breathe", "(LGalleryBirds$Air;III)I"⟩
abbrev cX2_breatheHushed : ByteArray := prog_4_method_4_code
def yX2_breatheHushed : MethodName := ⟨RX2, "breatheHushed", "(LGalleryBirds$Air;I)I"⟩
abbrev cX2_passAir : ByteArray := prog_4_method_5_code
def yX2_passAir : MethodName := ⟨RX2, "passAir", "(LGalleryBirds$Air;I)I"⟩
abbrev cX2_dropBirds : ByteArray := prog_4_method_6_code
def yX2_dropBirds : MethodName := ⟨RX2, "dropBirds", "(LGalleryBirds$Air;)I"⟩
def RX3 : String := "GalleryBirds$Readings"
def TX3 : u_T := fun k => match k with
  | 0 => ("GalleryBirds$Readings", "count", "I", false)
  | 1 => ("GalleryBirds$Readings", "galleries", "[I", true)
  | 2 => ("GalleryBirds$Readings", "fouls", "[I", true)
  | _ => ("GalleryBirds$Readings", "dropped", "[I", true)
def tyX3 : Nat → FieldType := fun k => match k with
  | 0 => .int
  | 1 => .array .int
  | 2 => .array .int
  | _ => .array .int
abbrev wsX30 : List Cond := u_ws RX3 TX3 4
theorem nmX3 : ∀ a, a < 4 → ∀ b, b < 4 → a ≠ b → (TX3 a).2.1 ≠ (TX3 b).2.1 := by decide +kernel
theorem tyX3_ok : ∀ k, k < 4 → parseFieldDescriptor (TX3 k).2.2.1 = some (tyX3 k) := by decide +kernel
abbrev cX3_init : ByteArray := prog_5_method_1_code
def yX3_init : MethodName := ⟨RX3, "<init>", "()V"⟩
abbrev cX3_write : ByteArray := prog_5_method_2_code
def yX3_write : MethodName := ⟨RX3, "write", "(III)I"⟩
abbrev cX3_areSo : ByteArray := prog_5_method_3_code
def yX3_areSo : MethodName := ⟨RX3, "areSo", "(LGalleryBirds$Pit;II)Z"⟩
def RX4 : String := "GalleryBirds$Seating"
def TX4 : u_T := fun k => match k with
  | 0 => ("GalleryBirds$Seating", "row", "[I", true)
  | 1 => ("GalleryBirds$Seating", "best", "[I", true)
  | _ => ("GalleryBirds$Seating", "most", "I", false)
def tyX4 : Nat → FieldType := fun k => match k with
  | 0 => .array .int
  | 1 => .array .int
  | _ => .int
abbrev wsX40 : List Cond := u_ws RX4 TX4 3
theorem nmX4 : ∀ a, a < 3 → ∀ b, b < 3 → a ≠ b → (TX4 a).2.1 ≠ (TX4 b).2.1 := by decide +kernel
theorem tyX4_ok : ∀ k, k < 3 → parseFieldDescriptor (TX4 k).2.2.1 = some (tyX4 k) := by decide +kernel
abbrev cX4_init : ByteArray := prog_6_method_1_code
def yX4_init : MethodName := ⟨RX4, "<init>", "()V"⟩
abbrev cX4_keep : ByteArray := prog_6_method_2_code
def yX4_keep : MethodName := ⟨RX4, "keep", "(I)V"⟩
def RX5 : String := "GalleryBirds$Sheet"
def TX5 : u_T := fun k => match k with
  | 0 => ("GalleryBirds$Sheet", "has", "Z", false)
  | 1 => ("GalleryBirds$Sheet", "lane", "I", false)
  | 2 => ("GalleryBirds$Sheet", "cells", "[I", true)
  | _ => ("GalleryBirds$Sheet", "count", "I", false)
def tyX5 : Nat → FieldType := fun k => match k with
  | 0 => .boolean
  | 1 => .int
  | 2 => .array .int
  | _ => .int
abbrev wsX50 : List Cond := u_ws RX5 TX5 4
theorem nmX5 : ∀ a, a < 4 → ∀ b, b < 4 → a ≠ b → (TX5 a).2.1 ≠ (TX5 b).2.1 := by decide +kernel
theorem tyX5_ok : ∀ k, k < 4 → parseFieldDescriptor (TX5 k).2.2.1 = some (tyX5 k) := by decide +kernel
abbrev cX5_init : ByteArray := prog_7_method_1_code
def yX5_init : MethodName := ⟨RX5, "<init>", "()V"⟩
abbrev cX5_begin : ByteArray := prog_7_method_2_code
def yX5_begin : MethodName := ⟨RX5, "begin", "(II)V"⟩
abbrev cX5_hasCells : ByteArray := prog_7_method_3_code
def yX5_hasCells : MethodName := ⟨RX5, "hasCells", "(II)Z"⟩
abbrev cX5_faultOfCells : ByteArray := prog_7_method_4_code
def yX5_faultOfCells : MethodName := ⟨RX5, "faultOfCells", "(III)I"⟩
def RX6 : String := "GalleryBirds"
def TX6 : u_T := fun k => match k with
  | 0 => ("GalleryBirds", "sheets", "[LGalleryBirds$Sheet;", true)
  | 1 => ("GalleryBirds", "pit", "LGalleryBirds$Pit;", true)
  | 2 => ("GalleryBirds", "air", "LGalleryBirds$Air;", true)
  | 3 => ("GalleryBirds", "readings", "LGalleryBirds$Readings;", true)
  | 4 => ("GalleryBirds", "pairs", "LGalleryBirds$Pairs;", true)
  | 5 => ("GalleryBirds", "trials", "[LGalleryBirds$Air;", true)
  | 6 => ("GalleryBirds", "orderRow", "[I", true)
  | 7 => ("GalleryBirds", "seating", "LGalleryBirds$Seating;", true)
  | 8 => ("GalleryBirds", "breaths", "I", false)
  | 9 => ("GalleryBirds", "trail", "I", false)
  | _ => ("GalleryBirds", "lastFault", "I", false)
def tyX6 : Nat → FieldType := fun k => match k with
  | 0 => .array (.object "GalleryBirds$Sheet")
  | 1 => .object "GalleryBirds$Pit"
  | 2 => .object "GalleryBirds$Air"
  | 3 => .object "GalleryBirds$Readings"
  | 4 => .object "GalleryBirds$Pairs"
  | 5 => .array (.object "GalleryBirds$Air")
  | 6 => .array .int
  | 7 => .object "GalleryBirds$Seating"
  | 8 => .int
  | 9 => .int
  | _ => .int
abbrev wsX60 : List Cond := u_ws RX6 TX6 11
theorem nmX6 : ∀ a, a < 11 → ∀ b, b < 11 → a ≠ b → (TX6 a).2.1 ≠ (TX6 b).2.1 := by decide +kernel
theorem tyX6_ok : ∀ k, k < 11 → parseFieldDescriptor (TX6 k).2.2.1 = some (tyX6 k) := by decide +kernel
abbrev cX6_init : ByteArray := prog_1_method_1_code
def yX6_init : MethodName := ⟨RX6, "<init>", "()V"⟩
abbrev cX6_mine : ByteArray := prog_1_method_2_code
def yX6_mine : MethodName := ⟨RX6, "mine", "(IIII)I"⟩
abbrev cX6_ofGallery : ByteArray := prog_1_method_3_code
def yX6_ofGallery : MethodName := ⟨RX6, "ofGallery", "(II)I"⟩
abbrev cX6_bad : ByteArray := prog_1_method_4_code
def yX6_bad : MethodName := ⟨RX6, "bad", "(I)I"⟩
abbrev cX6_foul : ByteArray := prog_1_method_5_code
def yX6_foul : MethodName := ⟨RX6, "foul", "(II)I"⟩
abbrev cX6_breed : ByteArray := prog_1_method_6_code
def yX6_breed : MethodName := ⟨RX6, "breed", "(II)I"⟩
abbrev cX6_door : ByteArray := prog_1_method_7_code
def yX6_door : MethodName := ⟨RX6, "door", "(II)I"⟩
abbrev cX6_say : ByteArray := prog_1_method_8_code
def yX6_say : MethodName := ⟨RX6, "say", "(II)I"⟩
abbrev cX6_hush : ByteArray := prog_1_method_9_code
def yX6_hush : MethodName := ⟨RX6, "hush", "(I)I"⟩
abbrev cX6_blow : ByteArray := prog_1_method_10_code
def yX6_blow : MethodName := ⟨RX6, "blow", "(I)I"⟩
abbrev cX6_shift : ByteArray := prog_1_method_11_code
def yX6_shift : MethodName := ⟨RX6, "shift", "(IIIII)I"⟩
abbrev cX6_order : ByteArray := prog_1_method_12_code
def yX6_order : MethodName := ⟨RX6, "order", "(IIIII)I"⟩
abbrev cX6_shut : ByteArray := prog_1_method_13_code
def yX6_shut : MethodName := ⟨RX6, "shut", "(IIIII)I"⟩
abbrev cX6_rests : ByteArray := prog_1_method_14_code
def yX6_rests : MethodName := ⟨RX6, "rests", "()I"⟩
abbrev cX6_clears : ByteArray := prog_1_method_15_code
def yX6_clears : MethodName := ⟨RX6, "clears", "(II)I"⟩
abbrev cX6_perches : ByteArray := prog_1_method_16_code
def yX6_perches : MethodName := ⟨RX6, "perches", "(I)I"⟩
abbrev cX6_found : ByteArray := prog_1_method_17_code
def yX6_found : MethodName := ⟨RX6, "found", "(IIII)I"⟩
abbrev cX6_reading : ByteArray := prog_1_method_18_code
def yX6_reading : MethodName := ⟨RX6, "reading", "(III)I"⟩
abbrev cX6_back : ByteArray := prog_1_method_19_code
def yX6_back : MethodName := ⟨RX6, "back", "(I)I"⟩
abbrev cX6_strengths : ByteArray := prog_1_method_20_code
def yX6_strengths : MethodName := ⟨RX6, "strengths", "(I)I"⟩
abbrev cX6_kinds : ByteArray := prog_1_method_21_code
def yX6_kinds : MethodName := ⟨RX6, "kinds", "(I)I"⟩
abbrev cX6_odds : ByteArray := prog_1_method_22_code
def yX6_odds : MethodName := ⟨RX6, "odds", "(II)J"⟩
abbrev cX6_sheet : ByteArray := prog_1_method_23_code
def yX6_sheet : MethodName := ⟨RX6, "sheet", "(III)I"⟩
abbrev cX6_lose : ByteArray := prog_1_method_24_code
def yX6_lose : MethodName := ⟨RX6, "lose", "(I)I"⟩
abbrev cX6_put : ByteArray := prog_1_method_25_code
def yX6_put : MethodName := ⟨RX6, "put", "(III)I"⟩
abbrev cX6_cell : ByteArray := prog_1_method_26_code
def yX6_cell : MethodName := ⟨RX6, "cell", "(III)J"⟩
abbrev cX6_copy : ByteArray := prog_1_method_27_code
def yX6_copy : MethodName := ⟨RX6, "copy", "(IIIII)I"⟩
abbrev cX6_tell : ByteArray := prog_1_method_28_code
def yX6_tell : MethodName := ⟨RX6, "tell", "(I)I"⟩
abbrev cX6_sign : ByteArray := prog_1_method_29_code
def yX6_sign : MethodName := ⟨RX6, "sign", "(I)I"⟩
abbrev cX6_as : ByteArray := prog_1_method_30_code
def yX6_as : MethodName := ⟨RX6, "as", "(II)I"⟩
abbrev cX6_trace : ByteArray := prog_1_method_31_code
def yX6_trace : MethodName := ⟨RX6, "trace", "()I"⟩
abbrev cX6_fault : ByteArray := prog_1_method_32_code
def yX6_fault : MethodName := ⟨RX6, "fault", "()I"⟩
abbrev cX6_many : ByteArray := prog_1_method_33_code
def yX6_many : MethodName := ⟨RX6, "many", "(I)I"⟩
abbrev cX6_hasMine : ByteArray := prog_1_method_34_code
def yX6_hasMine : MethodName := ⟨RX6, "hasMine", "()Z"⟩
abbrev cX6_isGallery : ByteArray := prog_1_method_35_code
def yX6_isGallery : MethodName := ⟨RX6, "isGallery", "(I)Z"⟩
abbrev cX6_isWord : ByteArray := prog_1_method_36_code
def yX6_isWord : MethodName := ⟨RX6, "isWord", "(I)Z"⟩
abbrev cX6_isDoor : ByteArray := prog_1_method_37_code
def yX6_isDoor : MethodName := ⟨RX6, "isDoor", "(I)Z"⟩
abbrev cX6_isSheet : ByteArray := prog_1_method_38_code
def yX6_isSheet : MethodName := ⟨RX6, "isSheet", "(I)Z"⟩
abbrev cX6_isLane : ByteArray := prog_1_method_39_code
def yX6_isLane : MethodName := ⟨RX6, "isLane", "(I)Z"⟩
abbrev cX6_isFoul : ByteArray := prog_1_method_40_code
def yX6_isFoul : MethodName := ⟨RX6, "isFoul", "(I)Z"⟩
abbrev cX6_isOfShift : ByteArray := prog_1_method_41_code
def yX6_isOfShift : MethodName := ⟨RX6, "isOfShift", "(I)Z"⟩
abbrev cX6_faulted : ByteArray := prog_1_method_42_code
def yX6_faulted : MethodName := ⟨RX6, "faulted", "(I)I"⟩
abbrev cX6_firstFaultOfText : ByteArray := prog_1_method_43_code
def yX6_firstFaultOfText : MethodName := ⟨RX6, "firstFaultOfText", "([III)I"⟩
abbrev cX6_wordsOfText : ByteArray := prog_1_method_44_code
def yX6_wordsOfText : MethodName := ⟨RX6, "wordsOfText", "([III)I"⟩
abbrev cX6_fitsGallery : ByteArray := prog_1_method_45_code
def yX6_fitsGallery : MethodName := ⟨RX6, "fitsGallery", "(II)Z"⟩
abbrev cX6_isDigit : ByteArray := prog_1_method_46_code
def yX6_isDigit : MethodName := ⟨RX6, "isDigit", "(III)Z"⟩
abbrev cX6_kindOfLetter : ByteArray := prog_1_method_47_code
def yX6_kindOfLetter : MethodName := ⟨RX6, "kindOfLetter", "(I)I"⟩
abbrev cX6_makeAnew : ByteArray := prog_1_method_48_code
def yX6_makeAnew : MethodName := ⟨RX6, "makeAnew", "([III)V"⟩
abbrev cX6_takePairs : ByteArray := prog_1_method_49_code
def yX6_takePairs : MethodName := ⟨RX6, "takePairs", "(LGalleryBirds$Sheet;III)I"⟩
abbrev cX6_dropsWithDoors : ByteArray := prog_1_method_50_code
def yX6_dropsWithDoors : MethodName := ⟨RX6, "dropsWithDoors", "(I)I"⟩
abbrev cX6_airBehind : ByteArray := prog_1_method_51_code
def yX6_airBehind : MethodName := ⟨RX6, "airBehind", "(II)LGalleryBirds$Air;"⟩
abbrev cX6_foulTogether : ByteArray := prog_1_method_52_code
def yX6_foulTogether : MethodName := ⟨RX6, "foulTogether", "(LGalleryBirds$Air;)I"⟩
abbrev cX6_isAsTold : ByteArray := prog_1_method_53_code
def yX6_isAsTold : MethodName := ⟨RX6, "isAsTold", "([IILGalleryBirds$Air;)Z"⟩
abbrev cX6_endsOrder : ByteArray := prog_1_method_54_code
def yX6_endsOrder : MethodName := ⟨RX6, "endsOrder", "(LGalleryBirds$Pit;LGalleryBirds$Pairs;[LGalleryBirds$Air;[III)Z"⟩
abbrev cX6_seatFrom : ByteArray := prog_1_method_55_code
def yX6_seatFrom : MethodName := ⟨RX6, "seatFrom", "(LGalleryBirds$Pit;LGalleryBirds$Air;LGalleryBirds$Seating;III)V"⟩
abbrev cX6_bearing : ByteArray := prog_1_method_56_code
def yX6_bearing : MethodName := ⟨RX6, "bearing", "(II)I"⟩
abbrev cX6_cutToLane : ByteArray := prog_1_method_57_code
def yX6_cutToLane : MethodName := ⟨RX6, "cutToLane", "(II)I"⟩
abbrev cX6_commonDivisor : ByteArray := prog_1_method_58_code
def yX6_commonDivisor : MethodName := ⟨RX6, "commonDivisor", "(II)I"⟩
abbrev cX6_leave : ByteArray := prog_1_method_59_code
def yX6_leave : MethodName := ⟨RX6, "leave", "(I)V"⟩
abbrev cX6_greyBody : ByteArray := prog_1_method_60_code
def yX6_greyBody : MethodName := ⟨RX6, "greyBody", "(I)I"⟩
abbrev cX6_greenBody : ByteArray := prog_1_method_61_code
def yX6_greenBody : MethodName := ⟨RX6, "greenBody", "(I)I"⟩
abbrev cX6_brightBody : ByteArray := prog_1_method_62_code
def yX6_brightBody : MethodName := ⟨RX6, "brightBody", "(I)I"⟩
abbrev cX6_lentSignature : ByteArray := prog_1_method_63_code
def yX6_lentSignature : MethodName := ⟨RX6, "lentSignature", "(I)I"⟩
abbrev cX6_brightSignature : ByteArray := prog_1_method_64_code
def yX6_brightSignature : MethodName := ⟨RX6, "brightSignature", "()I"⟩
def RX7 : String := "GalleryBirdsModel"
def TX7 : u_T := fun k => match k with
  | 0 => ("GalleryBirdsModel", "fault", "I", false)
  | 1 => ("GalleryBirdsModel", "trace", "I", false)
  | 2 => ("GalleryBirdsModel", "sorts", "[I", true)
  | 3 => ("GalleryBirdsModel", "sheetLong", "[I", true)
  | 4 => ("GalleryBirdsModel", "cells", "[I", true)
  | 5 => ("GalleryBirdsModel", "galleries", "I", false)
  | 6 => ("GalleryBirdsModel", "words", "I", false)
  | 7 => ("GalleryBirdsModel", "breaths", "I", false)
  | 8 => ("GalleryBirdsModel", "down", "I", false)
  | 9 => ("GalleryBirdsModel", "doors", "I", false)
  | 10 => ("GalleryBirdsModel", "badOf", "[I", true)
  | 11 => ("GalleryBirdsModel", "kind", "[I", true)
  | 12 => ("GalleryBirdsModel", "foulNow", "[I", true)
  | 13 => ("GalleryBirdsModel", "strength", "[I", true)
  | 14 => ("GalleryBirdsModel", "at", "I", false)
  | 15 => ("GalleryBirdsModel", "readWords", "I", false)
  | 16 => ("GalleryBirdsModel", "readGalleries", "I", false)
  | 17 => ("GalleryBirdsModel", "readBad", "[I", true)
  | 18 => ("GalleryBirdsModel", "read", "[I", true)
  | 19 => ("GalleryBirdsModel", "keptFoul", "[I", true)
  | 20 => ("GalleryBirdsModel", "keptDown", "I", false)
  | 21 => ("GalleryBirdsModel", "dropped", "I", false)
  | 22 => ("GalleryBirdsModel", "firstWrong", "I", false)
  | 23 => ("GalleryBirdsModel", "row", "[I", true)
  | 24 => ("GalleryBirdsModel", "perched", "[I", true)
  | 25 => ("GalleryBirdsModel", "readings", "I", false)
  | 26 => ("GalleryBirdsModel", "readWhere", "[I", true)
  | 27 => ("GalleryBirdsModel", "readFoul", "[I", true)
  | _ => ("GalleryBirdsModel", "readDropped", "[I", true)
def tyX7 : Nat → FieldType := fun k => match k with
  | 0 => .int
  | 1 => .int
  | 2 => .array .int
  | 3 => .array .int
  | 4 => .array .int
  | 5 => .int
  | 6 => .int
  | 7 => .int
  | 8 => .int
  | 9 => .int
  | 10 => .array .int
  | 11 => .array .int
  | 12 => .array .int
  | 13 => .array .int
  | 14 => .int
  | 15 => .int
  | 16 => .int
  | 17 => .array .int
  | 18 => .array .int
  | 19 => .array .int
  | 20 => .int
  | 21 => .int
  | 22 => .int
  | 23 => .array .int
  | 24 => .array .int
  | 25 => .int
  | 26 => .array .int
  | 27 => .array .int
  | _ => .array .int
abbrev wsX70 : List Cond := u_ws RX7 TX7 29
theorem nmX7 : ∀ a, a < 29 → ∀ b, b < 29 → a ≠ b → (TX7 a).2.1 ≠ (TX7 b).2.1 := by decide +kernel
theorem tyX7_ok : ∀ k, k < 29 → parseFieldDescriptor (TX7 k).2.2.1 = some (tyX7 k) := by decide +kernel
abbrev cX7_init : ByteArray := prog_9_method_1_code
def yX7_init : MethodName := ⟨RX7, "<init>", "()V"⟩
abbrev cX7_fails : ByteArray := prog_9_method_3_code
def yX7_fails : MethodName := ⟨RX7, "fails", "(I)I"⟩
abbrev cX7_lost : ByteArray := prog_9_method_4_code
def yX7_lost : MethodName := ⟨RX7, "lost", "(I)J"⟩
abbrev cX7_within : ByteArray := prog_9_method_5_code
def yX7_within : MethodName := ⟨RX7, "within", "(III)Z"⟩
abbrev cX7_isSheet : ByteArray := prog_9_method_6_code
def yX7_isSheet : MethodName := ⟨RX7, "isSheet", "(I)Z"⟩
abbrev cX7_isSort : ByteArray := prog_9_method_7_code
def yX7_isSort : MethodName := ⟨RX7, "isSort", "(I)Z"⟩
abbrev cX7_against : ByteArray := prog_9_method_8_code
def yX7_against : MethodName := ⟨RX7, "against", "(IIII)I"⟩
abbrev cX7_isGallery : ByteArray := prog_9_method_9_code
def yX7_isGallery : MethodName := ⟨RX7, "isGallery", "(I)Z"⟩
abbrev cX7_isWord : ByteArray := prog_9_method_10_code
def yX7_isWord : MethodName := ⟨RX7, "isWord", "(I)Z"⟩
abbrev cX7_isOf : ByteArray := prog_9_method_11_code
def yX7_isOf : MethodName := ⟨RX7, "isOf", "(II)Z"⟩
abbrev cX7_digit : ByteArray := prog_9_method_12_code
def yX7_digit : MethodName := ⟨RX7, "digit", "(III)I"⟩
abbrev cX7_isSign : ByteArray := prog_9_method_13_code
def yX7_isSign : MethodName := ⟨RX7, "isSign", "(II)Z"⟩
abbrev cX7_mine : ByteArray := prog_9_method_14_code
def yX7_mine : MethodName := ⟨RX7, "mine", "(IIII)I"⟩
abbrev cX7_takeMine : ByteArray := prog_9_method_15_code
def yX7_takeMine : MethodName := ⟨RX7, "takeMine", "()V"⟩
abbrev cX7_readMine : ByteArray := prog_9_method_16_code
def yX7_readMine : MethodName := ⟨RX7, "readMine", "(I)Z"⟩
abbrev cX7_readTheWords : ByteArray := prog_9_method_17_code
def yX7_readTheWords : MethodName := ⟨RX7, "readTheWords", "(I)Z"⟩
abbrev cX7_readGallery : ByteArray := prog_9_method_18_code
def yX7_readGallery : MethodName := ⟨RX7, "readGallery", "(I)Z"⟩
abbrev cX7_bearsBy : ByteArray := prog_9_method_19_code
def yX7_bearsBy : MethodName := ⟨RX7, "bearsBy", "(II)I"⟩
abbrev cX7_bearsOf : ByteArray := prog_9_method_20_code
def yX7_bearsOf : MethodName := ⟨RX7, "bearsOf", "(I)I"⟩
abbrev cX7_isDoor : ByteArray := prog_9_method_21_code
def yX7_isDoor : MethodName := ⟨RX7, "isDoor", "(I)Z"⟩
abbrev cX7_ofGallery : ByteArray := prog_9_method_22_code
def yX7_ofGallery : MethodName := ⟨RX7, "ofGallery", "(II)I"⟩
abbrev cX7_bad : ByteArray := prog_9_method_23_code
def yX7_bad : MethodName := ⟨RX7, "bad", "(I)I"⟩
abbrev cX7_foul : ByteArray := prog_9_method_24_code
def yX7_foul : MethodName := ⟨RX7, "foul", "(II)I"⟩
abbrev cX7_breed : ByteArray := prog_9_method_25_code
def yX7_breed : MethodName := ⟨RX7, "breed", "(II)I"⟩
abbrev cX7_door : ByteArray := prog_9_method_26_code
def yX7_door : MethodName := ⟨RX7, "door", "(II)I"⟩
abbrev cX7_pass : ByteArray := prog_9_method_27_code
def yX7_pass : MethodName := ⟨RX7, "pass", "()I"⟩
abbrev cX7_drop : ByteArray := prog_9_method_28_code
def yX7_drop : MethodName := ⟨RX7, "drop", "()I"⟩
abbrev cX7_sayIn : ByteArray := prog_9_method_29_code
def yX7_sayIn : MethodName := ⟨RX7, "sayIn", "(II)V"⟩
abbrev cX7_breathe : ByteArray := prog_9_method_30_code
def yX7_breathe : MethodName := ⟨RX7, "breathe", "(II)I"⟩
abbrev cX7_say : ByteArray := prog_9_method_31_code
def yX7_say : MethodName := ⟨RX7, "say", "(II)I"⟩
abbrev cX7_hush : ByteArray := prog_9_method_32_code
def yX7_hush : MethodName := ⟨RX7, "hush", "(I)I"⟩
abbrev cX7_size : ByteArray := prog_9_method_33_code
def yX7_size : MethodName := ⟨RX7, "size", "(I)I"⟩
abbrev cX7_blow : ByteArray := prog_9_method_34_code
def yX7_blow : MethodName := ⟨RX7, "blow", "(I)I"⟩
abbrev cX7_keep : ByteArray := prog_9_method_35_code
def yX7_keep : MethodName := ⟨RX7, "keep", "()V"⟩
abbrev cX7_putBack : ByteArray := prog_9_method_36_code
def yX7_putBack : MethodName := ⟨RX7, "putBack", "()V"⟩
abbrev cX7_refusesPairs : ByteArray := prog_9_method_37_code
def yX7_refusesPairs : MethodName := ⟨RX7, "refusesPairs", "(II)I"⟩
abbrev cX7_goShift : ByteArray := prog_9_method_38_code
def yX7_goShift : MethodName := ⟨RX7, "goShift", "(II)V"⟩
abbrev cX7_refuses : ByteArray := prog_9_method_39_code
def yX7_refuses : MethodName := ⟨RX7, "refuses", "(IIIIIZ)I"⟩
abbrev cX7_shift : ByteArray := prog_9_method_40_code
def yX7_shift : MethodName := ⟨RX7, "shift", "(IIIII)I"⟩
abbrev cX7_tellShift : ByteArray := prog_9_method_41_code
def yX7_tellShift : MethodName := ⟨RX7, "tellShift", "(I)I"⟩
abbrev cX7_orderOf : ByteArray := prog_9_method_42_code
def yX7_orderOf : MethodName := ⟨RX7, "orderOf", "(II)V"⟩
abbrev cX7_ordersOf : ByteArray := prog_9_method_43_code
def yX7_ordersOf : MethodName := ⟨RX7, "ordersOf", "(I)I"⟩
abbrev cX7_isQuiet : ByteArray := prog_9_method_44_code
def yX7_isQuiet : MethodName := ⟨RX7, "isQuiet", "(II)Z"⟩
abbrev cX7_order : ByteArray := prog_9_method_45_code
def yX7_order : MethodName := ⟨RX7, "order", "(IIIII)I"⟩
abbrev cX7_shut : ByteArray := prog_9_method_46_code
def yX7_shut : MethodName := ⟨RX7, "shut", "(IIIII)I"⟩
abbrev cX7_rests : ByteArray := prog_9_method_47_code
def yX7_rests : MethodName := ⟨RX7, "rests", "()I"⟩
abbrev cX7_clears : ByteArray := prog_9_method_48_code
def yX7_clears : MethodName := ⟨RX7, "clears", "(II)I"⟩
abbrev cX7_findPerches : ByteArray := prog_9_method_49_code
def yX7_findPerches : MethodName := ⟨RX7, "findPerches", "()I"⟩
abbrev cX7_perches : ByteArray := prog_9_method_50_code
def yX7_perches : MethodName := ⟨RX7, "perches", "(I)I"⟩
abbrev cX7_isFound : ByteArray := prog_9_method_51_code
def yX7_isFound : MethodName := ⟨RX7, "isFound", "(III)Z"⟩
abbrev cX7_found : ByteArray := prog_9_method_52_code
def yX7_found : MethodName := ⟨RX7, "found", "(IIII)I"⟩
abbrev cX7_reading : ByteArray := prog_9_method_53_code
def yX7_reading : MethodName := ⟨RX7, "reading", "(III)I"⟩
abbrev cX7_back : ByteArray := prog_9_method_54_code
def yX7_back : MethodName := ⟨RX7, "back", "(I)I"⟩
abbrev cX7_areSo : ByteArray := prog_9_method_55_code
def yX7_areSo : MethodName := ⟨RX7, "areSo", "()Z"⟩
abbrev cX7_strengths : ByteArray := prog_9_method_56_code
def yX7_strengths : MethodName := ⟨RX7, "strengths", "(I)I"⟩
abbrev cX7_kinds : ByteArray := prog_9_method_57_code
def yX7_kinds : MethodName := ⟨RX7, "kinds", "(I)I"⟩
abbrev cX7_inLeastTerms : ByteArray := prog_9_method_58_code
def yX7_inLeastTerms : MethodName := ⟨RX7, "inLeastTerms", "(JJI)J"⟩
abbrev cX7_odds : ByteArray := prog_9_method_59_code
def yX7_odds : MethodName := ⟨RX7, "odds", "(II)J"⟩
abbrev cX7_sheet : ByteArray := prog_9_method_60_code
def yX7_sheet : MethodName := ⟨RX7, "sheet", "(III)I"⟩
abbrev cX7_lose : ByteArray := prog_9_method_61_code
def yX7_lose : MethodName := ⟨RX7, "lose", "(I)I"⟩
abbrev cX7_put : ByteArray := prog_9_method_62_code
def yX7_put : MethodName := ⟨RX7, "put", "(III)I"⟩
abbrev cX7_cell : ByteArray := prog_9_method_63_code
def yX7_cell : MethodName := ⟨RX7, "cell", "(III)J"⟩
abbrev cX7_copy : ByteArray := prog_9_method_64_code
def yX7_copy : MethodName := ⟨RX7, "copy", "(IIIII)I"⟩
abbrev cX7_begins : ByteArray := prog_9_method_65_code
def yX7_begins : MethodName := ⟨RX7, "begins", "(I)V"⟩
abbrev cX7_tell : ByteArray := prog_9_method_66_code
def yX7_tell : MethodName := ⟨RX7, "tell", "(I)I"⟩
abbrev cX7_sign : ByteArray := prog_9_method_67_code
def yX7_sign : MethodName := ⟨RX7, "sign", "(I)I"⟩
abbrev cX7_as : ByteArray := prog_9_method_68_code
def yX7_as : MethodName := ⟨RX7, "as", "(II)I"⟩
abbrev cX7_trace : ByteArray := prog_9_method_69_code
def yX7_trace : MethodName := ⟨RX7, "trace", "()I"⟩
abbrev cX7_fault : ByteArray := prog_9_method_70_code
def yX7_fault : MethodName := ⟨RX7, "fault", "()I"⟩
abbrev cX7_many : ByteArray := prog_9_method_71_code
def yX7_many : MethodName := ⟨RX7, "many", "(I)I"⟩
def RJ6 : String := "java/lang/Integer"
def TJ6 : u_T := fun k => match k with
  | _ => ("", "", "", false)
def tyJ6 : Nat → FieldType := fun k => match k with
  | _ => .int
abbrev wsJ60 : List Cond := u_ws RJ6 TJ6 0
theorem nmJ6 : ∀ a, a < 0 → ∀ b, b < 0 → a ≠ b → (TJ6 a).2.1 ≠ (TJ6 b).2.1 := by decide +kernel
theorem tyJ6_ok : ∀ k, k < 0 → parseFieldDescriptor (TJ6 k).2.2.1 = some (tyJ6 k) := by decide +kernel
abbrev cJ6_bitCount_0f7a4 : ByteArray := prog_10_method_49_code
def yJ6_bitCount_0f7a4 : MethodName := ⟨RJ6, "bitCount", "(I)I"⟩
def RJ9 : String := "java/lang/Math"
def TJ9 : u_T := fun k => match k with
  | _ => ("", "", "", false)
def tyJ9 : Nat → FieldType := fun k => match k with
  | _ => .int
abbrev wsJ90 : List Cond := u_ws RJ9 TJ9 0
theorem nmJ9 : ∀ a, a < 0 → ∀ b, b < 0 → a ≠ b → (TJ9 a).2.1 ≠ (TJ9 b).2.1 := by decide +kernel
theorem tyJ9_ok : ∀ k, k < 0 → parseFieldDescriptor (TJ9 k).2.2.1 = some (tyJ9 k) := by decide +kernel
abbrev cJ9_abs_0f7a4 : ByteArray := prog_11_method_59_code
def yJ9_abs_0f7a4 : MethodName := ⟨RJ9, "abs", "(I)I"⟩
abbrev cJ9_max_7cf53 : ByteArray := prog_11_method_65_code
def yJ9_max_7cf53 : MethodName := ⟨RJ9, "max", "(II)I"⟩
abbrev cJ9_min_7cf53 : ByteArray := prog_11_method_69_code
def yJ9_min_7cf53 : MethodName := ⟨RJ9, "min", "(II)I"⟩
def RJ10 : String := "java/lang/System"
def TJ10 : u_T := fun k => match k with
  | _ => ("", "", "", false)
def tyJ10 : Nat → FieldType := fun k => match k with
  | _ => .int
abbrev wsJ100 : List Cond := u_ws RJ10 TJ10 0
theorem nmJ10 : ∀ a, a < 0 → ∀ b, b < 0 → a ≠ b → (TJ10 a).2.1 ≠ (TJ10 b).2.1 := by decide +kernel
theorem tyJ10_ok : ∀ k, k < 0 → parseFieldDescriptor (TJ10 k).2.2.1 = some (tyJ10 k) := by decide +kernel
def RL : String := "GalleryBirdsLaw"
abbrev cL_law : ByteArray := code
def yL_law : MethodName := ⟨RL, "law", "([I)Z"⟩
def wsX0_init : List Cond := .code yX0_init cX0_init 1 none :: ([.methodLink RX0 3 objectInit, .instanceMethod objectInit, .code objectInit ⟨#[0xb1]⟩ 1 none, .arrayClass .int, .fieldLink RX0 9 "GalleryBirds$Air" "fouls" "[I", .fieldLink RX0 15 "GalleryBirds$Air" "down" "I"] ++ wsX00)
def wsX0_isDown : List Cond := .code yX0_isDown cX0_isDown 2 (some .boolean) :: ([.fieldLink RX0 15 "GalleryBirds$Air" "down" "I"] ++ wsX00)
def wsX0_becomeLike : List Cond := .code yX0_becomeLike cX0_becomeLike 2 none :: ([.fieldLink RX0 9 "GalleryBirds$Air" "fouls" "[I", .methodLink RX0 19 arraycopyName, .native arraycopyName, .static arraycopyName, .initialized "java/lang/System", .fieldLink RX0 15 "GalleryBirds$Air" "down" "I"] ++ wsX00)
def wsX1_init : List Cond := .code yX1_init cX1_init 1 none :: ([.methodLink RX1 3 objectInit, .instanceMethod objectInit, .code objectInit ⟨#[0xb1]⟩ 1 none, .fieldLink RX1 9 "GalleryBirds$Pairs" "count" "I", .arrayClass .int, .fieldLink RX1 15 "GalleryBirds$Pairs" "galleries" "[I", .fieldLink RX1 19 "GalleryBirds$Pairs" "words" "[I"] ++ wsX10)
def wsX2_init : List Cond := .code yX2_init cX2_init 1 none :: ([.methodLink RX2 3 objectInit, .instanceMethod objectInit, .code objectInit ⟨#[0xb1]⟩ 1 none, .fieldLink RX2 9 "GalleryBirds$Pit" "galleries" "I", .fieldLink RX2 15 "GalleryBirds$Pit" "words" "I", .arrayClass .int, .fieldLink RX2 18 "GalleryBirds$Pit" "bads" "[I", .fieldLink RX2 22 "GalleryBirds$Pit" "kinds" "[I", .fieldLink RX2 25 "GalleryBirds$Pit" "strengths" "[I", .fieldLink RX2 28 "GalleryBirds$Pit" "doors" "I"] ++ wsX20)
def wsX6_bearing : List Cond := .code yX6_bearing cX6_bearing 2 (some .int) :: ([])
def wsX2_bears : List Cond := .code yX2_bears cX2_bears 2 (some .int) :: ([.fieldLink RX2 22 "GalleryBirds$Pit" "kinds" "[I", .fieldLink RX2 25 "GalleryBirds$Pit" "strengths" "[I", .static yX6_bearing, .initialized RX6, .code yX6_bearing cX6_bearing 2 (some .int)] ++ wsX20)
def wsX2_passAir : List Cond := .code yX2_passAir cX2_passAir 7 (some .int) :: ([.fieldLink RX2 9 "GalleryBirds$Pit" "galleries" "I", .fieldLink RX2 35 "GalleryBirds$Air" "fouls" "[I", .methodLink RX2 59 Lib.Math.abs.name, .static Lib.Math.abs.name, .initialized "java/lang/Math", .code Lib.Math.abs.name Lib.Math.abs.code 1 (some .int)] ++ wsX20 ++ wsX00)
def wsX2_dropBirds : List Cond := .code yX2_dropBirds cX2_dropBirds 4 (some .int) :: ([.fieldLink RX2 9 "GalleryBirds$Pit" "galleries" "I", .fieldLink RX2 35 "GalleryBirds$Air" "fouls" "[I", .fieldLink RX2 70 "GalleryBirds$Air" "down" "I", .methodLink RX2 63 yX0_isDown, .instanceMethod yX0_isDown, .selects RX0 yX0_isDown yX0_isDown, .initialized RX0, .code yX0_isDown cX0_isDown 2 (some .boolean), .fieldLink RX0 15 "GalleryBirds$Air" "down" "I", .methodLink RX2 67 yX2_bears, .instanceMethod yX2_bears, .selects RX2 yX2_bears yX2_bears, .initialized RX2, .code yX2_bears cX2_bears 2 (some .int), .fieldLink RX2 22 "GalleryBirds$Pit" "kinds" "[I", .fieldLink RX2 25 "GalleryBirds$Pit" "strengths" "[I", .static yX6_bearing, .initialized RX6, .code yX6_bearing cX6_bearing 2 (some .int)] ++ wsX20 ++ wsX00)
def wsX2_breatheHushed_r1 : List Cond := [Cond.methodLink RX2 52 yX2_passAir, Cond.instanceMethod yX2_passAir, Cond.selects RX2 yX2_passAir yX2_passAir, Cond.initialized RX2, Cond.code yX2_passAir cX2_passAir 7 (some .int), Cond.fieldLink RX2 9 "GalleryBirds$Pit" "galleries" "I", Cond.fieldLink RX2 35 "GalleryBirds$Air" "fouls" "[I", Cond.methodLink RX2 59 Lib.Math.abs.name, Cond.static Lib.Math.abs.name, Cond.initialized "java/lang/Math", Cond.code Lib.Math.abs.name Lib.Math.abs.code 1 (some .int), Cond.methodLink RX2 55 yX2_dropBirds, Cond.instanceMethod yX2_dropBirds, Cond.selects RX2 yX2_dropBirds yX2_dropBirds, Cond.code yX2_dropBirds cX2_dropBirds 4 (some .int), Cond.fieldLink RX2 70 "GalleryBirds$Air" "down" "I", Cond.methodLink RX2 63 yX0_isDown, Cond.instanceMethod yX0_isDown, Cond.selects RX0 yX0_isDown yX0_isDown, Cond.initialized RX0, Cond.code yX0_isDown cX0_isDown 2 (some .boolean), Cond.fieldLink RX0 15 "GalleryBirds$Air" "down" "I", Cond.methodLink RX2 67 yX2_bears, Cond.instanceMethod yX2_bears]
def wsX2_breatheHushed_r2 : List Cond := [Cond.selects RX2 yX2_bears yX2_bears, Cond.code yX2_bears cX2_bears 2 (some .int), Cond.fieldLink RX2 22 "GalleryBirds$Pit" "kinds" "[I", Cond.fieldLink RX2 25 "GalleryBirds$Pit" "strengths" "[I", Cond.static yX6_bearing, Cond.initialized RX6, Cond.code yX6_bearing cX6_bearing 2 (some .int)]
def wsX2_breatheHushed : List Cond := .code yX2_breatheHushed cX2_breatheHushed 3 (some .int) :: ((wsX2_breatheHushed_r1 ++ wsX2_breatheHushed_r2) ++ wsX20 ++ wsX00)
def wsX2_breathe_r1 : List Cond := [Cond.fieldLink RX2 35 "GalleryBirds$Air" "fouls" "[I", Cond.fieldLink RX2 18 "GalleryBirds$Pit" "bads" "[I", Cond.methodLink RX2 40 Lib.Math.min.name, Cond.static Lib.Math.min.name, Cond.initialized "java/lang/Math", Cond.code Lib.Math.min.name Lib.Math.min.code 2 (some .int), Cond.methodLink RX2 45 Lib.Math.max.name, Cond.static Lib.Math.max.name, Cond.code Lib.Math.max.name Lib.Math.max.code 2 (some .int), Cond.methodLink RX2 48 yX2_breatheHushed, Cond.instanceMethod yX2_breatheHushed, Cond.selects RX2 yX2_breatheHushed yX2_breatheHushed, Cond.initialized RX2, Cond.code yX2_breatheHushed cX2_breatheHushed 3 (some .int), Cond.methodLink RX2 52 yX2_passAir, Cond.instanceMethod yX2_passAir, Cond.selects RX2 yX2_passAir yX2_passAir, Cond.code yX2_passAir cX2_passAir 7 (some .int), Cond.fieldLink RX2 9 "GalleryBirds$Pit" "galleries" "I", Cond.methodLink RX2 59 Lib.Math.abs.name, Cond.static Lib.Math.abs.name, Cond.code Lib.Math.abs.name Lib.Math.abs.code 1 (some .int), Cond.methodLink RX2 55 yX2_dropBirds, Cond.instanceMethod yX2_dropBirds]
def wsX2_breathe_r2 : List Cond := [Cond.selects RX2 yX2_dropBirds yX2_dropBirds, Cond.code yX2_dropBirds cX2_dropBirds 4 (some .int), Cond.fieldLink RX2 70 "GalleryBirds$Air" "down" "I", Cond.methodLink RX2 63 yX0_isDown, Cond.instanceMethod yX0_isDown, Cond.selects RX0 yX0_isDown yX0_isDown, Cond.initialized RX0, Cond.code yX0_isDown cX0_isDown 2 (some .boolean), Cond.fieldLink RX0 15 "GalleryBirds$Air" "down" "I", Cond.methodLink RX2 67 yX2_bears, Cond.instanceMethod yX2_bears, Cond.selects RX2 yX2_bears yX2_bears, Cond.code yX2_bears cX2_bears 2 (some .int), Cond.fieldLink RX2 22 "GalleryBirds$Pit" "kinds" "[I", Cond.fieldLink RX2 25 "GalleryBirds$Pit" "strengths" "[I", Cond.static yX6_bearing, Cond.initialized RX6, Cond.code yX6_bearing cX6_bearing 2 (some .int)]
def wsX2_breathe : List Cond := .code yX2_breathe cX2_breathe 5 (some .int) :: ((wsX2_breathe_r1 ++ wsX2_breathe_r2) ++ wsX00 ++ wsX20)
def wsX3_init : List Cond := .code yX3_init cX3_init 1 none :: ([.methodLink RX3 3 objectInit, .instanceMethod objectInit, .code objectInit ⟨#[0xb1]⟩ 1 none, .fieldLink RX3 9 "GalleryBirds$Readings" "count" "I", .arrayClass .int, .fieldLink RX3 15 "GalleryBirds$Readings" "galleries" "[I", .fieldLink RX3 19 "GalleryBirds$Readings" "fouls" "[I", .fieldLink RX3 22 "GalleryBirds$Readings" "dropped" "[I"] ++ wsX30)
def wsX3_write : List Cond := .code yX3_write cX3_write 5 (some .int) :: ([.fieldLink RX3 9 "GalleryBirds$Readings" "count" "I", .fieldLink RX3 15 "GalleryBirds$Readings" "galleries" "[I", .fieldLink RX3 19 "GalleryBirds$Readings" "fouls" "[I", .fieldLink RX3 22 "GalleryBirds$Readings" "dropped" "[I"] ++ wsX30)
def wsX3_areSo : List Cond := .code yX3_areSo cX3_areSo 7 (some .boolean) :: ([.fieldLink RX3 9 "GalleryBirds$Readings" "count" "I", .fieldLink RX3 15 "GalleryBirds$Readings" "galleries" "[I", .fieldLink RX3 19 "GalleryBirds$Readings" "fouls" "[I", .fieldLink RX3 22 "GalleryBirds$Readings" "dropped" "[I", .methodLink RX3 25 yX2_bears, .instanceMethod yX2_bears, .selects RX2 yX2_bears yX2_bears, .initialized RX2, .code yX2_bears cX2_bears 2 (some .int), .fieldLink RX2 22 "GalleryBirds$Pit" "kinds" "[I", .fieldLink RX2 25 "GalleryBirds$Pit" "strengths" "[I", .static yX6_bearing, .initialized RX6, .code yX6_bearing cX6_bearing 2 (some .int)] ++ wsX30 ++ wsX20)
def wsX4_init : List Cond := .code yX4_init cX4_init 1 none :: ([.methodLink RX4 3 objectInit, .instanceMethod objectInit, .code objectInit ⟨#[0xb1]⟩ 1 none, .arrayClass .int, .fieldLink RX4 9 "GalleryBirds$Seating" "row" "[I", .fieldLink RX4 15 "GalleryBirds$Seating" "best" "[I", .fieldLink RX4 18 "GalleryBirds$Seating" "most" "I"] ++ wsX40)
def wsX4_keep : List Cond := .code yX4_keep cX4_keep 2 none :: ([.fieldLink RX4 18 "GalleryBirds$Seating" "most" "I", .fieldLink RX4 9 "GalleryBirds$Seating" "row" "[I", .fieldLink RX4 15 "GalleryBirds$Seating" "best" "[I", .methodLink RX4 22 arraycopyName, .native arraycopyName, .static arraycopyName, .initialized "java/lang/System"] ++ wsX40)
def wsX5_init : List Cond := .code yX5_init cX5_init 1 none :: ([.methodLink RX5 3 objectInit, .instanceMethod objectInit, .code objectInit ⟨#[0xb1]⟩ 1 none, .fieldLink RX5 9 "GalleryBirds$Sheet" "has" "Z", .fieldLink RX5 15 "GalleryBirds$Sheet" "lane" "I", .arrayClass .int, .fieldLink RX5 19 "GalleryBirds$Sheet" "cells" "[I", .fieldLink RX5 23 "GalleryBirds$Sheet" "count" "I"] ++ wsX50)
def wsX5_begin : List Cond := .code yX5_begin cX5_begin 4 none :: ([.fieldLink RX5 9 "GalleryBirds$Sheet" "has" "Z", .fieldLink RX5 15 "GalleryBirds$Sheet" "lane" "I", .fieldLink RX5 23 "GalleryBirds$Sheet" "count" "I", .fieldLink RX5 19 "GalleryBirds$Sheet" "cells" "[I"] ++ wsX50)
def wsX5_hasCells : List Cond := .code yX5_hasCells cX5_hasCells 3 (some .boolean) :: ([.fieldLink RX5 23 "GalleryBirds$Sheet" "count" "I"] ++ wsX50)
def wsX5_faultOfCells : List Cond := .code yX5_faultOfCells cX5_faultOfCells 4 (some .int) :: ([.fieldLink RX5 9 "GalleryBirds$Sheet" "has" "Z", .fieldLink RX5 15 "GalleryBirds$Sheet" "lane" "I", .methodLink RX5 26 yX5_hasCells, .instanceMethod yX5_hasCells, .selects RX5 yX5_hasCells yX5_hasCells, .initialized RX5, .code yX5_hasCells cX5_hasCells 3 (some .boolean), .fieldLink RX5 23 "GalleryBirds$Sheet" "count" "I"] ++ wsX50)
def wsX6_init_r1 : List Cond := [Cond.methodLink RX6 3 objectInit, Cond.instanceMethod objectInit, Cond.code objectInit ⟨#[0xb1]⟩ 1 none, Cond.classLink RX6 11 RX5, Cond.fieldLink RX6 13 "GalleryBirds" "sheets" "[LGalleryBirds$Sheet;", Cond.classLink RX6 17 RX2, Cond.instantiable RX2 6, Cond.initialized RX2, Cond.fieldLink RX6 20 "GalleryBirds" "pit" "LGalleryBirds$Pit;", Cond.classLink RX6 24 RX0, Cond.instantiable RX0 2, Cond.initialized RX0, Cond.fieldLink RX6 27 "GalleryBirds" "air" "LGalleryBirds$Air;", Cond.classLink RX6 31 RX3, Cond.instantiable RX3 4, Cond.initialized RX3, Cond.fieldLink RX6 34 "GalleryBirds" "readings" "LGalleryBirds$Readings;", Cond.classLink RX6 38 RX1, Cond.instantiable RX1 3, Cond.initialized RX1, Cond.fieldLink RX6 41 "GalleryBirds" "pairs" "LGalleryBirds$Pairs;", Cond.fieldLink RX6 45 "GalleryBirds" "trials" "[LGalleryBirds$Air;", Cond.arrayClass .int, Cond.fieldLink RX6 49 "GalleryBirds" "orderRow" "[I"]
def wsX6_init_r2 : List Cond := [Cond.classLink RX6 53 RX4, Cond.instantiable RX4 3, Cond.initialized RX4, Cond.fieldLink RX6 56 "GalleryBirds" "seating" "LGalleryBirds$Seating;", Cond.fieldLink RX6 60 "GalleryBirds" "breaths" "I", Cond.fieldLink RX6 64 "GalleryBirds" "trail" "I", Cond.fieldLink RX6 67 "GalleryBirds" "lastFault" "I", Cond.instantiable RX5 4, Cond.initialized RX5, Cond.instanceMethod yX2_init, Cond.code yX2_init cX2_init 1 none, Cond.methodLink RX2 3 objectInit, Cond.fieldLink RX2 9 "GalleryBirds$Pit" "galleries" "I", Cond.fieldLink RX2 15 "GalleryBirds$Pit" "words" "I", Cond.fieldLink RX2 18 "GalleryBirds$Pit" "bads" "[I", Cond.fieldLink RX2 22 "GalleryBirds$Pit" "kinds" "[I", Cond.fieldLink RX2 25 "GalleryBirds$Pit" "strengths" "[I", Cond.fieldLink RX2 28 "GalleryBirds$Pit" "doors" "I", Cond.instanceMethod yX0_init, Cond.code yX0_init cX0_init 1 none, Cond.methodLink RX0 3 objectInit, Cond.fieldLink RX0 9 "GalleryBirds$Air" "fouls" "[I", Cond.fieldLink RX0 15 "GalleryBirds$Air" "down" "I", Cond.instanceMethod yX3_init]
def wsX6_init_r3 : List Cond := [Cond.code yX3_init cX3_init 1 none, Cond.methodLink RX3 3 objectInit, Cond.fieldLink RX3 9 "GalleryBirds$Readings" "count" "I", Cond.fieldLink RX3 15 "GalleryBirds$Readings" "galleries" "[I", Cond.fieldLink RX3 19 "GalleryBirds$Readings" "fouls" "[I", Cond.fieldLink RX3 22 "GalleryBirds$Readings" "dropped" "[I", Cond.instanceMethod yX1_init, Cond.code yX1_init cX1_init 1 none, Cond.methodLink RX1 3 objectInit, Cond.fieldLink RX1 9 "GalleryBirds$Pairs" "count" "I", Cond.fieldLink RX1 15 "GalleryBirds$Pairs" "galleries" "[I", Cond.fieldLink RX1 19 "GalleryBirds$Pairs" "words" "[I", Cond.instanceMethod yX4_init, Cond.code yX4_init cX4_init 1 none, Cond.methodLink RX4 3 objectInit, Cond.fieldLink RX4 9 "GalleryBirds$Seating" "row" "[I", Cond.fieldLink RX4 15 "GalleryBirds$Seating" "best" "[I", Cond.fieldLink RX4 18 "GalleryBirds$Seating" "most" "I", Cond.instanceMethod yX5_init, Cond.code yX5_init cX5_init 1 none, Cond.methodLink RX5 3 objectInit, Cond.fieldLink RX5 9 "GalleryBirds$Sheet" "has" "Z", Cond.fieldLink RX5 15 "GalleryBirds$Sheet" "lane" "I", Cond.fieldLink RX5 19 "GalleryBirds$Sheet" "cells" "[I"]
def wsX6_init_r4 : List Cond := [Cond.fieldLink RX5 23 "GalleryBirds$Sheet" "count" "I"]
def wsX6_init : List Cond := .code yX6_init cX6_init 2 none :: ((wsX6_init_r1 ++ (wsX6_init_r2 ++ (wsX6_init_r3 ++ wsX6_init_r4))) ++ wsX60 ++ wsX20 ++ wsX00 ++ wsX30 ++ wsX10 ++ wsX40 ++ wsX50)
def wsX6_isSheet : List Cond := .code yX6_isSheet cX6_isSheet 1 (some .boolean) :: ([])
def wsX6_isLane : List Cond := .code yX6_isLane cX6_isLane 1 (some .boolean) :: ([])
def wsX6_faulted : List Cond := .code yX6_faulted cX6_faulted 2 (some .int) :: ([.fieldLink RX6 67 "GalleryBirds" "lastFault" "I"] ++ wsX60)
def wsX6_isDigit : List Cond := .code yX6_isDigit cX6_isDigit 3 (some .boolean) :: ([])
def wsX6_wordsOfText : List Cond := .code yX6_wordsOfText cX6_wordsOfText 4 (some .int) :: ([.methodLink RX6 269 yX6_isDigit, .static yX6_isDigit, .initialized RX6, .code yX6_isDigit cX6_isDigit 3 (some .boolean)])
def wsX6_kindOfLetter : List Cond := .code yX6_kindOfLetter cX6_kindOfLetter 1 (some .int) :: ([])
def wsX6_fitsGallery : List Cond := .code yX6_fitsGallery cX6_fitsGallery 2 (some .boolean) :: ([.methodLink RX6 273 yX6_kindOfLetter, .static yX6_kindOfLetter, .initialized RX6, .code yX6_kindOfLetter cX6_kindOfLetter 1 (some .int), .methodLink RX6 269 yX6_isDigit, .static yX6_isDigit, .code yX6_isDigit cX6_isDigit 3 (some .boolean)])
def wsX6_firstFaultOfText : List Cond := .code yX6_firstFaultOfText cX6_firstFaultOfText 7 (some .int) :: ([.methodLink RX6 263 yX6_wordsOfText, .static yX6_wordsOfText, .initialized RX6, .code yX6_wordsOfText cX6_wordsOfText 4 (some .int), .methodLink RX6 269 yX6_isDigit, .static yX6_isDigit, .code yX6_isDigit cX6_isDigit 3 (some .boolean), .methodLink RX6 266 yX6_fitsGallery, .static yX6_fitsGallery, .code yX6_fitsGallery cX6_fitsGallery 2 (some .boolean), .methodLink RX6 273 yX6_kindOfLetter, .static yX6_kindOfLetter, .code yX6_kindOfLetter cX6_kindOfLetter 1 (some .int)])
def wsX6_isDoor : List Cond := .code yX6_isDoor cX6_isDoor 2 (some .boolean) :: ([.fieldLink RX6 20 "GalleryBirds" "pit" "LGalleryBirds$Pit;", .fieldLink RX6 97 "GalleryBirds$Pit" "galleries" "I"] ++ wsX60 ++ wsX20)
def wsX6_makeAnew_r1 : List Cond := [Cond.fieldLink RX6 20 "GalleryBirds" "pit" "LGalleryBirds$Pit;", Cond.fieldLink RX6 196 "GalleryBirds$Pit" "words" "I", Cond.fieldLink RX6 127 "GalleryBirds$Pit" "bads" "[I", Cond.methodLink RX6 276 Lib.Math.min.name, Cond.static Lib.Math.min.name, Cond.initialized "java/lang/Math", Cond.code Lib.Math.min.name Lib.Math.min.code 2 (some .int), Cond.fieldLink RX6 97 "GalleryBirds$Pit" "galleries" "I", Cond.fieldLink RX6 121 "GalleryBirds$Pit" "doors" "I", Cond.fieldLink RX6 103 "GalleryBirds$Pit" "kinds" "[I", Cond.fieldLink RX6 27 "GalleryBirds" "air" "LGalleryBirds$Air;", Cond.fieldLink RX6 106 "GalleryBirds$Air" "fouls" "[I", Cond.fieldLink RX6 109 "GalleryBirds$Pit" "strengths" "[I", Cond.fieldLink RX6 115 "GalleryBirds$Air" "down" "I", Cond.fieldLink RX6 60 "GalleryBirds" "breaths" "I", Cond.fieldLink RX6 34 "GalleryBirds" "readings" "LGalleryBirds$Readings;", Cond.fieldLink RX6 206 "GalleryBirds$Readings" "count" "I", Cond.methodLink RX6 263 yX6_wordsOfText, Cond.static yX6_wordsOfText, Cond.initialized RX6, Cond.code yX6_wordsOfText cX6_wordsOfText 4 (some .int), Cond.methodLink RX6 269 yX6_isDigit, Cond.static yX6_isDigit, Cond.code yX6_isDigit cX6_isDigit 3 (some .boolean)]
def wsX6_makeAnew_r2 : List Cond := [Cond.methodLink RX6 273 yX6_kindOfLetter, Cond.static yX6_kindOfLetter, Cond.code yX6_kindOfLetter cX6_kindOfLetter 1 (some .int), Cond.methodLink RX6 118 yX6_isDoor, Cond.instanceMethod yX6_isDoor, Cond.selects RX6 yX6_isDoor yX6_isDoor, Cond.code yX6_isDoor cX6_isDoor 2 (some .boolean)]
def wsX6_makeAnew : List Cond := .code yX6_makeAnew cX6_makeAnew 7 none :: ((wsX6_makeAnew_r1 ++ wsX6_makeAnew_r2) ++ wsX60 ++ wsX20 ++ wsX00 ++ wsX30)
def wsX6_mine_r1 : List Cond := [Cond.fieldLink RX6 67 "GalleryBirds" "lastFault" "I", Cond.fieldLink RX6 13 "GalleryBirds" "sheets" "[LGalleryBirds$Sheet;", Cond.fieldLink RX6 86 "GalleryBirds$Sheet" "cells" "[I", Cond.fieldLink RX6 20 "GalleryBirds" "pit" "LGalleryBirds$Pit;", Cond.fieldLink RX6 97 "GalleryBirds$Pit" "galleries" "I", Cond.methodLink RX6 71 yX6_isSheet, Cond.static yX6_isSheet, Cond.initialized RX6, Cond.code yX6_isSheet cX6_isSheet 1 (some .boolean), Cond.methodLink RX6 75 yX6_isLane, Cond.static yX6_isLane, Cond.code yX6_isLane cX6_isLane 1 (some .boolean), Cond.methodLink RX6 78 yX5_faultOfCells, Cond.instanceMethod yX5_faultOfCells, Cond.selects RX5 yX5_faultOfCells yX5_faultOfCells, Cond.initialized RX5, Cond.code yX5_faultOfCells cX5_faultOfCells 4 (some .int), Cond.fieldLink RX5 9 "GalleryBirds$Sheet" "has" "Z", Cond.fieldLink RX5 15 "GalleryBirds$Sheet" "lane" "I", Cond.methodLink RX5 26 yX5_hasCells, Cond.instanceMethod yX5_hasCells, Cond.selects RX5 yX5_hasCells yX5_hasCells, Cond.code yX5_hasCells cX5_hasCells 3 (some .boolean), Cond.fieldLink RX5 23 "GalleryBirds$Sheet" "count" "I"]
def wsX6_mine_r2 : List Cond := [Cond.methodLink RX6 82 yX6_faulted, Cond.instanceMethod yX6_faulted, Cond.selects RX6 yX6_faulted yX6_faulted, Cond.code yX6_faulted cX6_faulted 2 (some .int), Cond.methodLink RX6 89 yX6_firstFaultOfText, Cond.static yX6_firstFaultOfText, Cond.code yX6_firstFaultOfText cX6_firstFaultOfText 7 (some .int), Cond.methodLink RX6 263 yX6_wordsOfText, Cond.static yX6_wordsOfText, Cond.code yX6_wordsOfText cX6_wordsOfText 4 (some .int), Cond.methodLink RX6 269 yX6_isDigit, Cond.static yX6_isDigit, Cond.code yX6_isDigit cX6_isDigit 3 (some .boolean), Cond.methodLink RX6 266 yX6_fitsGallery, Cond.static yX6_fitsGallery, Cond.code yX6_fitsGallery cX6_fitsGallery 2 (some .boolean), Cond.methodLink RX6 273 yX6_kindOfLetter, Cond.static yX6_kindOfLetter, Cond.code yX6_kindOfLetter cX6_kindOfLetter 1 (some .int), Cond.methodLink RX6 93 yX6_makeAnew, Cond.instanceMethod yX6_makeAnew, Cond.selects RX6 yX6_makeAnew yX6_makeAnew, Cond.code yX6_makeAnew cX6_makeAnew 7 none, Cond.fieldLink RX6 196 "GalleryBirds$Pit" "words" "I"]
def wsX6_mine_r3 : List Cond := [Cond.fieldLink RX6 127 "GalleryBirds$Pit" "bads" "[I", Cond.methodLink RX6 276 Lib.Math.min.name, Cond.static Lib.Math.min.name, Cond.initialized "java/lang/Math", Cond.code Lib.Math.min.name Lib.Math.min.code 2 (some .int), Cond.fieldLink RX6 121 "GalleryBirds$Pit" "doors" "I", Cond.fieldLink RX6 103 "GalleryBirds$Pit" "kinds" "[I", Cond.fieldLink RX6 27 "GalleryBirds" "air" "LGalleryBirds$Air;", Cond.fieldLink RX6 106 "GalleryBirds$Air" "fouls" "[I", Cond.fieldLink RX6 109 "GalleryBirds$Pit" "strengths" "[I", Cond.fieldLink RX6 115 "GalleryBirds$Air" "down" "I", Cond.fieldLink RX6 60 "GalleryBirds" "breaths" "I", Cond.fieldLink RX6 34 "GalleryBirds" "readings" "LGalleryBirds$Readings;", Cond.fieldLink RX6 206 "GalleryBirds$Readings" "count" "I", Cond.methodLink RX6 118 yX6_isDoor, Cond.instanceMethod yX6_isDoor, Cond.selects RX6 yX6_isDoor yX6_isDoor, Cond.code yX6_isDoor cX6_isDoor 2 (some .boolean)]
def wsX6_mine : List Cond := .code yX6_mine cX6_mine 8 (some .int) :: ((wsX6_mine_r1 ++ (wsX6_mine_r2 ++ wsX6_mine_r3)) ++ wsX60 ++ wsX50 ++ wsX20 ++ wsX00 ++ wsX30)
def wsX6_isGallery : List Cond := .code yX6_isGallery cX6_isGallery 2 (some .boolean) :: ([.fieldLink RX6 20 "GalleryBirds" "pit" "LGalleryBirds$Pit;", .fieldLink RX6 97 "GalleryBirds$Pit" "galleries" "I"] ++ wsX60 ++ wsX20)
def wsX6_ofGallery_r1 : List Cond := [Cond.fieldLink RX6 20 "GalleryBirds" "pit" "LGalleryBirds$Pit;", Cond.fieldLink RX6 103 "GalleryBirds$Pit" "kinds" "[I", Cond.fieldLink RX6 27 "GalleryBirds" "air" "LGalleryBirds$Air;", Cond.fieldLink RX6 106 "GalleryBirds$Air" "fouls" "[I", Cond.fieldLink RX6 109 "GalleryBirds$Pit" "strengths" "[I", Cond.fieldLink RX6 115 "GalleryBirds$Air" "down" "I", Cond.fieldLink RX6 121 "GalleryBirds$Pit" "doors" "I", Cond.methodLink RX6 100 yX6_isGallery, Cond.instanceMethod yX6_isGallery, Cond.selects RX6 yX6_isGallery yX6_isGallery, Cond.initialized RX6, Cond.code yX6_isGallery cX6_isGallery 2 (some .boolean), Cond.fieldLink RX6 97 "GalleryBirds$Pit" "galleries" "I", Cond.methodLink RX6 112 yX2_bears, Cond.instanceMethod yX2_bears, Cond.selects RX2 yX2_bears yX2_bears, Cond.initialized RX2, Cond.code yX2_bears cX2_bears 2 (some .int), Cond.fieldLink RX2 22 "GalleryBirds$Pit" "kinds" "[I", Cond.fieldLink RX2 25 "GalleryBirds$Pit" "strengths" "[I", Cond.static yX6_bearing, Cond.code yX6_bearing cX6_bearing 2 (some .int), Cond.methodLink RX6 118 yX6_isDoor, Cond.instanceMethod yX6_isDoor]
def wsX6_ofGallery_r2 : List Cond := [Cond.selects RX6 yX6_isDoor yX6_isDoor, Cond.code yX6_isDoor cX6_isDoor 2 (some .boolean)]
def wsX6_ofGallery : List Cond := .code yX6_ofGallery cX6_ofGallery 3 (some .int) :: ((wsX6_ofGallery_r1 ++ wsX6_ofGallery_r2) ++ wsX60 ++ wsX20 ++ wsX00)
def wsX6_isWord : List Cond := .code yX6_isWord cX6_isWord 2 (some .boolean) :: ([.fieldLink RX6 20 "GalleryBirds" "pit" "LGalleryBirds$Pit;", .fieldLink RX6 196 "GalleryBirds$Pit" "words" "I"] ++ wsX60 ++ wsX20)
def wsX6_bad : List Cond := .code yX6_bad cX6_bad 2 (some .int) :: ([.fieldLink RX6 20 "GalleryBirds" "pit" "LGalleryBirds$Pit;", .fieldLink RX6 127 "GalleryBirds$Pit" "bads" "[I", .methodLink RX6 124 yX6_isWord, .instanceMethod yX6_isWord, .selects RX6 yX6_isWord yX6_isWord, .initialized RX6, .code yX6_isWord cX6_isWord 2 (some .boolean), .fieldLink RX6 196 "GalleryBirds$Pit" "words" "I"] ++ wsX60 ++ wsX20)
def wsX6_isFoul : List Cond := .code yX6_isFoul cX6_isFoul 1 (some .boolean) :: ([])
def wsX6_foul : List Cond := .code yX6_foul cX6_foul 4 (some .int) :: ([.fieldLink RX6 27 "GalleryBirds" "air" "LGalleryBirds$Air;", .fieldLink RX6 106 "GalleryBirds$Air" "fouls" "[I", .methodLink RX6 100 yX6_isGallery, .instanceMethod yX6_isGallery, .selects RX6 yX6_isGallery yX6_isGallery, .initialized RX6, .code yX6_isGallery cX6_isGallery 2 (some .boolean), .fieldLink RX6 20 "GalleryBirds" "pit" "LGalleryBirds$Pit;", .fieldLink RX6 97 "GalleryBirds$Pit" "galleries" "I", .methodLink RX6 130 yX6_isFoul, .static yX6_isFoul, .code yX6_isFoul cX6_isFoul 1 (some .boolean)] ++ wsX60 ++ wsX00 ++ wsX20)
def wsX6_breed : List Cond := .code yX6_breed cX6_breed 4 (some .int) :: ([.fieldLink RX6 20 "GalleryBirds" "pit" "LGalleryBirds$Pit;", .fieldLink RX6 109 "GalleryBirds$Pit" "strengths" "[I", .methodLink RX6 100 yX6_isGallery, .instanceMethod yX6_isGallery, .selects RX6 yX6_isGallery yX6_isGallery, .initialized RX6, .code yX6_isGallery cX6_isGallery 2 (some .boolean), .fieldLink RX6 97 "GalleryBirds$Pit" "galleries" "I"] ++ wsX60 ++ wsX20)
def wsX6_door : List Cond := .code yX6_door cX6_door 4 (some .int) :: ([.fieldLink RX6 20 "GalleryBirds" "pit" "LGalleryBirds$Pit;", .fieldLink RX6 121 "GalleryBirds$Pit" "doors" "I", .methodLink RX6 118 yX6_isDoor, .instanceMethod yX6_isDoor, .selects RX6 yX6_isDoor yX6_isDoor, .initialized RX6, .code yX6_isDoor cX6_isDoor 2 (some .boolean), .fieldLink RX6 97 "GalleryBirds$Pit" "galleries" "I"] ++ wsX60 ++ wsX20)
def wsX6_say_r1 : List Cond := [Cond.fieldLink RX6 60 "GalleryBirds" "breaths" "I", Cond.fieldLink RX6 20 "GalleryBirds" "pit" "LGalleryBirds$Pit;", Cond.fieldLink RX6 27 "GalleryBirds" "air" "LGalleryBirds$Air;", Cond.fieldLink RX6 121 "GalleryBirds$Pit" "doors" "I", Cond.methodLink RX6 100 yX6_isGallery, Cond.instanceMethod yX6_isGallery, Cond.selects RX6 yX6_isGallery yX6_isGallery, Cond.initialized RX6, Cond.code yX6_isGallery cX6_isGallery 2 (some .boolean), Cond.fieldLink RX6 97 "GalleryBirds$Pit" "galleries" "I", Cond.methodLink RX6 124 yX6_isWord, Cond.instanceMethod yX6_isWord, Cond.selects RX6 yX6_isWord yX6_isWord, Cond.code yX6_isWord cX6_isWord 2 (some .boolean), Cond.fieldLink RX6 196 "GalleryBirds$Pit" "words" "I", Cond.methodLink RX6 133 yX2_breathe, Cond.instanceMethod yX2_breathe, Cond.selects RX2 yX2_breathe yX2_breathe, Cond.initialized RX2, Cond.code yX2_breathe cX2_breathe 5 (some .int), Cond.fieldLink RX2 35 "GalleryBirds$Air" "fouls" "[I", Cond.fieldLink RX2 18 "GalleryBirds$Pit" "bads" "[I", Cond.methodLink RX2 40 Lib.Math.min.name, Cond.static Lib.Math.min.name]
def wsX6_say_r2 : List Cond := [Cond.initialized "java/lang/Math", Cond.code Lib.Math.min.name Lib.Math.min.code 2 (some .int), Cond.methodLink RX2 45 Lib.Math.max.name, Cond.static Lib.Math.max.name, Cond.code Lib.Math.max.name Lib.Math.max.code 2 (some .int), Cond.methodLink RX2 48 yX2_breatheHushed, Cond.instanceMethod yX2_breatheHushed, Cond.selects RX2 yX2_breatheHushed yX2_breatheHushed, Cond.code yX2_breatheHushed cX2_breatheHushed 3 (some .int), Cond.methodLink RX2 52 yX2_passAir, Cond.instanceMethod yX2_passAir, Cond.selects RX2 yX2_passAir yX2_passAir, Cond.code yX2_passAir cX2_passAir 7 (some .int), Cond.fieldLink RX2 9 "GalleryBirds$Pit" "galleries" "I", Cond.methodLink RX2 59 Lib.Math.abs.name, Cond.static Lib.Math.abs.name, Cond.code Lib.Math.abs.name Lib.Math.abs.code 1 (some .int), Cond.methodLink RX2 55 yX2_dropBirds, Cond.instanceMethod yX2_dropBirds, Cond.selects RX2 yX2_dropBirds yX2_dropBirds, Cond.code yX2_dropBirds cX2_dropBirds 4 (some .int), Cond.fieldLink RX2 70 "GalleryBirds$Air" "down" "I", Cond.methodLink RX2 63 yX0_isDown, Cond.instanceMethod yX0_isDown]
def wsX6_say_r3 : List Cond := [Cond.selects RX0 yX0_isDown yX0_isDown, Cond.initialized RX0, Cond.code yX0_isDown cX0_isDown 2 (some .boolean), Cond.fieldLink RX0 15 "GalleryBirds$Air" "down" "I", Cond.methodLink RX2 67 yX2_bears, Cond.instanceMethod yX2_bears, Cond.selects RX2 yX2_bears yX2_bears, Cond.code yX2_bears cX2_bears 2 (some .int), Cond.fieldLink RX2 22 "GalleryBirds$Pit" "kinds" "[I", Cond.fieldLink RX2 25 "GalleryBirds$Pit" "strengths" "[I", Cond.static yX6_bearing, Cond.code yX6_bearing cX6_bearing 2 (some .int)]
def wsX6_say : List Cond := .code yX6_say cX6_say 3 (some .int) :: ((wsX6_say_r1 ++ (wsX6_say_r2 ++ wsX6_say_r3)) ++ wsX60 ++ wsX20 ++ wsX00)
def wsX6_hasMine : List Cond := .code yX6_hasMine cX6_hasMine 1 (some .boolean) :: ([.fieldLink RX6 20 "GalleryBirds" "pit" "LGalleryBirds$Pit;", .fieldLink RX6 97 "GalleryBirds$Pit" "galleries" "I"] ++ wsX60 ++ wsX20)
def wsX6_hush_r1 : List Cond := [Cond.fieldLink RX6 20 "GalleryBirds" "pit" "LGalleryBirds$Pit;", Cond.fieldLink RX6 27 "GalleryBirds" "air" "LGalleryBirds$Air;", Cond.fieldLink RX6 121 "GalleryBirds$Pit" "doors" "I", Cond.fieldLink RX6 60 "GalleryBirds" "breaths" "I", Cond.methodLink RX6 137 yX6_hasMine, Cond.instanceMethod yX6_hasMine, Cond.selects RX6 yX6_hasMine yX6_hasMine, Cond.initialized RX6, Cond.code yX6_hasMine cX6_hasMine 1 (some .boolean), Cond.fieldLink RX6 97 "GalleryBirds$Pit" "galleries" "I", Cond.methodLink RX6 141 yX2_breatheHushed, Cond.instanceMethod yX2_breatheHushed, Cond.selects RX2 yX2_breatheHushed yX2_breatheHushed, Cond.initialized RX2, Cond.code yX2_breatheHushed cX2_breatheHushed 3 (some .int), Cond.methodLink RX2 52 yX2_passAir, Cond.instanceMethod yX2_passAir, Cond.selects RX2 yX2_passAir yX2_passAir, Cond.code yX2_passAir cX2_passAir 7 (some .int), Cond.fieldLink RX2 9 "GalleryBirds$Pit" "galleries" "I", Cond.fieldLink RX2 35 "GalleryBirds$Air" "fouls" "[I", Cond.methodLink RX2 59 Lib.Math.abs.name, Cond.static Lib.Math.abs.name, Cond.initialized "java/lang/Math"]
def wsX6_hush_r2 : List Cond := [Cond.code Lib.Math.abs.name Lib.Math.abs.code 1 (some .int), Cond.methodLink RX2 55 yX2_dropBirds, Cond.instanceMethod yX2_dropBirds, Cond.selects RX2 yX2_dropBirds yX2_dropBirds, Cond.code yX2_dropBirds cX2_dropBirds 4 (some .int), Cond.fieldLink RX2 70 "GalleryBirds$Air" "down" "I", Cond.methodLink RX2 63 yX0_isDown, Cond.instanceMethod yX0_isDown, Cond.selects RX0 yX0_isDown yX0_isDown, Cond.initialized RX0, Cond.code yX0_isDown cX0_isDown 2 (some .boolean), Cond.fieldLink RX0 15 "GalleryBirds$Air" "down" "I", Cond.methodLink RX2 67 yX2_bears, Cond.instanceMethod yX2_bears, Cond.selects RX2 yX2_bears yX2_bears, Cond.code yX2_bears cX2_bears 2 (some .int), Cond.fieldLink RX2 22 "GalleryBirds$Pit" "kinds" "[I", Cond.fieldLink RX2 25 "GalleryBirds$Pit" "strengths" "[I", Cond.static yX6_bearing, Cond.code yX6_bearing cX6_bearing 2 (some .int)]
def wsX6_hush : List Cond := .code yX6_hush cX6_hush 4 (some .int) :: ((wsX6_hush_r1 ++ wsX6_hush_r2) ++ wsX60 ++ wsX20 ++ wsX00)
def wsJ6_bitCount_0f7a4 : List Cond := .code yJ6_bitCount_0f7a4 cJ6_bitCount_0f7a4 1 (some .int) :: ([.constant RJ6 265 (1431655765), .constant RJ6 266 (858993459), .constant RJ6 267 (252645135)])
def wsX6_blow_r1 : List Cond := [Cond.fieldLink RX6 27 "GalleryBirds" "air" "LGalleryBirds$Air;", Cond.fieldLink RX6 106 "GalleryBirds$Air" "fouls" "[I", Cond.fieldLink RX6 20 "GalleryBirds" "pit" "LGalleryBirds$Pit;", Cond.fieldLink RX6 115 "GalleryBirds$Air" "down" "I", Cond.methodLink RX6 100 yX6_isGallery, Cond.instanceMethod yX6_isGallery, Cond.selects RX6 yX6_isGallery yX6_isGallery, Cond.initialized RX6, Cond.code yX6_isGallery cX6_isGallery 2 (some .boolean), Cond.fieldLink RX6 97 "GalleryBirds$Pit" "galleries" "I", Cond.methodLink RX6 145 yX0_isDown, Cond.instanceMethod yX0_isDown, Cond.selects RX0 yX0_isDown yX0_isDown, Cond.initialized RX0, Cond.code yX0_isDown cX0_isDown 2 (some .boolean), Cond.fieldLink RX0 15 "GalleryBirds$Air" "down" "I", Cond.methodLink RX6 112 yX2_bears, Cond.instanceMethod yX2_bears, Cond.selects RX2 yX2_bears yX2_bears, Cond.initialized RX2, Cond.code yX2_bears cX2_bears 2 (some .int), Cond.fieldLink RX2 22 "GalleryBirds$Pit" "kinds" "[I", Cond.fieldLink RX2 25 "GalleryBirds$Pit" "strengths" "[I", Cond.static yX6_bearing]
def wsX6_blow_r2 : List Cond := [Cond.code yX6_bearing cX6_bearing 2 (some .int), Cond.methodLink RX6 148 yJ6_bitCount_0f7a4, Cond.static yJ6_bitCount_0f7a4, Cond.initialized RJ6, Cond.code yJ6_bitCount_0f7a4 cJ6_bitCount_0f7a4 1 (some .int), Cond.constant RJ6 265 (1431655765), Cond.constant RJ6 266 (858993459), Cond.constant RJ6 267 (252645135)]
def wsX6_blow : List Cond := .code yX6_blow cX6_blow 2 (some .int) :: ((wsX6_blow_r1 ++ wsX6_blow_r2) ++ wsX60 ++ wsX00 ++ wsX20)
def wsX6_isOfShift : List Cond := .code yX6_isOfShift cX6_isOfShift 1 (some .boolean) :: ([])
def wsX6_takePairs_r1 : List Cond := [Cond.fieldLink RX6 86 "GalleryBirds$Sheet" "cells" "[I", Cond.fieldLink RX6 41 "GalleryBirds" "pairs" "LGalleryBirds$Pairs;", Cond.fieldLink RX6 167 "GalleryBirds$Pairs" "galleries" "[I", Cond.fieldLink RX6 169 "GalleryBirds$Pairs" "words" "[I", Cond.fieldLink RX6 164 "GalleryBirds$Pairs" "count" "I", Cond.methodLink RX6 78 yX5_faultOfCells, Cond.instanceMethod yX5_faultOfCells, Cond.selects RX5 yX5_faultOfCells yX5_faultOfCells, Cond.initialized RX5, Cond.code yX5_faultOfCells cX5_faultOfCells 4 (some .int), Cond.fieldLink RX5 9 "GalleryBirds$Sheet" "has" "Z", Cond.fieldLink RX5 15 "GalleryBirds$Sheet" "lane" "I", Cond.methodLink RX5 26 yX5_hasCells, Cond.instanceMethod yX5_hasCells, Cond.selects RX5 yX5_hasCells yX5_hasCells, Cond.code yX5_hasCells cX5_hasCells 3 (some .boolean), Cond.fieldLink RX5 23 "GalleryBirds$Sheet" "count" "I", Cond.methodLink RX6 82 yX6_faulted, Cond.instanceMethod yX6_faulted, Cond.selects RX6 yX6_faulted yX6_faulted, Cond.initialized RX6, Cond.code yX6_faulted cX6_faulted 2 (some .int), Cond.fieldLink RX6 67 "GalleryBirds" "lastFault" "I", Cond.methodLink RX6 137 yX6_hasMine]
def wsX6_takePairs_r2 : List Cond := [Cond.instanceMethod yX6_hasMine, Cond.selects RX6 yX6_hasMine yX6_hasMine, Cond.code yX6_hasMine cX6_hasMine 1 (some .boolean), Cond.fieldLink RX6 20 "GalleryBirds" "pit" "LGalleryBirds$Pit;", Cond.fieldLink RX6 97 "GalleryBirds$Pit" "galleries" "I", Cond.methodLink RX6 100 yX6_isGallery, Cond.instanceMethod yX6_isGallery, Cond.selects RX6 yX6_isGallery yX6_isGallery, Cond.code yX6_isGallery cX6_isGallery 2 (some .boolean), Cond.methodLink RX6 124 yX6_isWord, Cond.instanceMethod yX6_isWord, Cond.selects RX6 yX6_isWord yX6_isWord, Cond.code yX6_isWord cX6_isWord 2 (some .boolean), Cond.fieldLink RX6 196 "GalleryBirds$Pit" "words" "I"]
def wsX6_takePairs : List Cond := .code yX6_takePairs cX6_takePairs 9 (some .int) :: ((wsX6_takePairs_r1 ++ wsX6_takePairs_r2) ++ wsX50 ++ wsX60 ++ wsX10 ++ wsX20)
def wsX6_foulTogether : List Cond := .code yX6_foulTogether cX6_foulTogether 4 (some .int) :: ([.fieldLink RX6 20 "GalleryBirds" "pit" "LGalleryBirds$Pit;", .fieldLink RX6 97 "GalleryBirds$Pit" "galleries" "I", .fieldLink RX6 106 "GalleryBirds$Air" "fouls" "[I"] ++ wsX60 ++ wsX20 ++ wsX00)
def wsX6_shift_r1 : List Cond := [Cond.fieldLink RX6 67 "GalleryBirds" "lastFault" "I", Cond.fieldLink RX6 13 "GalleryBirds" "sheets" "[LGalleryBirds$Sheet;", Cond.fieldLink RX6 45 "GalleryBirds" "trials" "[LGalleryBirds$Air;", Cond.fieldLink RX6 27 "GalleryBirds" "air" "LGalleryBirds$Air;", Cond.fieldLink RX6 41 "GalleryBirds" "pairs" "LGalleryBirds$Pairs;", Cond.fieldLink RX6 164 "GalleryBirds$Pairs" "count" "I", Cond.fieldLink RX6 20 "GalleryBirds" "pit" "LGalleryBirds$Pit;", Cond.fieldLink RX6 121 "GalleryBirds$Pit" "doors" "I", Cond.fieldLink RX6 167 "GalleryBirds$Pairs" "galleries" "[I", Cond.fieldLink RX6 169 "GalleryBirds$Pairs" "words" "[I", Cond.fieldLink RX6 115 "GalleryBirds$Air" "down" "I", Cond.fieldLink RX6 106 "GalleryBirds$Air" "fouls" "[I", Cond.methodLink RX6 71 yX6_isSheet, Cond.static yX6_isSheet, Cond.initialized RX6, Cond.code yX6_isSheet cX6_isSheet 1 (some .boolean), Cond.methodLink RX6 75 yX6_isLane, Cond.static yX6_isLane, Cond.code yX6_isLane cX6_isLane 1 (some .boolean), Cond.methodLink RX6 153 yX6_isOfShift, Cond.static yX6_isOfShift, Cond.code yX6_isOfShift cX6_isOfShift 1 (some .boolean), Cond.methodLink RX6 156 yX6_takePairs, Cond.instanceMethod yX6_takePairs]
def wsX6_shift_r2 : List Cond := [Cond.selects RX6 yX6_takePairs yX6_takePairs, Cond.code yX6_takePairs cX6_takePairs 9 (some .int), Cond.fieldLink RX6 86 "GalleryBirds$Sheet" "cells" "[I", Cond.methodLink RX6 78 yX5_faultOfCells, Cond.instanceMethod yX5_faultOfCells, Cond.selects RX5 yX5_faultOfCells yX5_faultOfCells, Cond.initialized RX5, Cond.code yX5_faultOfCells cX5_faultOfCells 4 (some .int), Cond.fieldLink RX5 9 "GalleryBirds$Sheet" "has" "Z", Cond.fieldLink RX5 15 "GalleryBirds$Sheet" "lane" "I", Cond.methodLink RX5 26 yX5_hasCells, Cond.instanceMethod yX5_hasCells, Cond.selects RX5 yX5_hasCells yX5_hasCells, Cond.code yX5_hasCells cX5_hasCells 3 (some .boolean), Cond.fieldLink RX5 23 "GalleryBirds$Sheet" "count" "I", Cond.methodLink RX6 82 yX6_faulted, Cond.instanceMethod yX6_faulted, Cond.selects RX6 yX6_faulted yX6_faulted, Cond.code yX6_faulted cX6_faulted 2 (some .int), Cond.methodLink RX6 137 yX6_hasMine, Cond.instanceMethod yX6_hasMine, Cond.selects RX6 yX6_hasMine yX6_hasMine, Cond.code yX6_hasMine cX6_hasMine 1 (some .boolean), Cond.fieldLink RX6 97 "GalleryBirds$Pit" "galleries" "I"]
def wsX6_shift_r3 : List Cond := [Cond.methodLink RX6 100 yX6_isGallery, Cond.instanceMethod yX6_isGallery, Cond.selects RX6 yX6_isGallery yX6_isGallery, Cond.code yX6_isGallery cX6_isGallery 2 (some .boolean), Cond.methodLink RX6 124 yX6_isWord, Cond.instanceMethod yX6_isWord, Cond.selects RX6 yX6_isWord yX6_isWord, Cond.code yX6_isWord cX6_isWord 2 (some .boolean), Cond.fieldLink RX6 196 "GalleryBirds$Pit" "words" "I", Cond.methodLink RX6 160 yX0_becomeLike, Cond.instanceMethod yX0_becomeLike, Cond.selects RX0 yX0_becomeLike yX0_becomeLike, Cond.initialized RX0, Cond.code yX0_becomeLike cX0_becomeLike 2 none, Cond.fieldLink RX0 9 "GalleryBirds$Air" "fouls" "[I", Cond.methodLink RX0 19 arraycopyName, Cond.native arraycopyName, Cond.static arraycopyName, Cond.initialized "java/lang/System", Cond.fieldLink RX0 15 "GalleryBirds$Air" "down" "I", Cond.methodLink RX6 133 yX2_breathe, Cond.instanceMethod yX2_breathe, Cond.selects RX2 yX2_breathe yX2_breathe, Cond.initialized RX2]
def wsX6_shift_r4 : List Cond := [Cond.code yX2_breathe cX2_breathe 5 (some .int), Cond.fieldLink RX2 35 "GalleryBirds$Air" "fouls" "[I", Cond.fieldLink RX2 18 "GalleryBirds$Pit" "bads" "[I", Cond.methodLink RX2 40 Lib.Math.min.name, Cond.static Lib.Math.min.name, Cond.initialized "java/lang/Math", Cond.code Lib.Math.min.name Lib.Math.min.code 2 (some .int), Cond.methodLink RX2 45 Lib.Math.max.name, Cond.static Lib.Math.max.name, Cond.code Lib.Math.max.name Lib.Math.max.code 2 (some .int), Cond.methodLink RX2 48 yX2_breatheHushed, Cond.instanceMethod yX2_breatheHushed, Cond.selects RX2 yX2_breatheHushed yX2_breatheHushed, Cond.code yX2_breatheHushed cX2_breatheHushed 3 (some .int), Cond.methodLink RX2 52 yX2_passAir, Cond.instanceMethod yX2_passAir, Cond.selects RX2 yX2_passAir yX2_passAir, Cond.code yX2_passAir cX2_passAir 7 (some .int), Cond.fieldLink RX2 9 "GalleryBirds$Pit" "galleries" "I", Cond.methodLink RX2 59 Lib.Math.abs.name, Cond.static Lib.Math.abs.name, Cond.code Lib.Math.abs.name Lib.Math.abs.code 1 (some .int), Cond.methodLink RX2 55 yX2_dropBirds, Cond.instanceMethod yX2_dropBirds]
def wsX6_shift_r5 : List Cond := [Cond.selects RX2 yX2_dropBirds yX2_dropBirds, Cond.code yX2_dropBirds cX2_dropBirds 4 (some .int), Cond.fieldLink RX2 70 "GalleryBirds$Air" "down" "I", Cond.methodLink RX2 63 yX0_isDown, Cond.instanceMethod yX0_isDown, Cond.selects RX0 yX0_isDown yX0_isDown, Cond.code yX0_isDown cX0_isDown 2 (some .boolean), Cond.methodLink RX2 67 yX2_bears, Cond.instanceMethod yX2_bears, Cond.selects RX2 yX2_bears yX2_bears, Cond.code yX2_bears cX2_bears 2 (some .int), Cond.fieldLink RX2 22 "GalleryBirds$Pit" "kinds" "[I", Cond.fieldLink RX2 25 "GalleryBirds$Pit" "strengths" "[I", Cond.static yX6_bearing, Cond.code yX6_bearing cX6_bearing 2 (some .int), Cond.methodLink RX6 148 yJ6_bitCount_0f7a4, Cond.static yJ6_bitCount_0f7a4, Cond.initialized RJ6, Cond.code yJ6_bitCount_0f7a4 cJ6_bitCount_0f7a4 1 (some .int), Cond.constant RJ6 265 (1431655765), Cond.constant RJ6 266 (858993459), Cond.constant RJ6 267 (252645135), Cond.methodLink RX6 172 yX6_foulTogether, Cond.instanceMethod yX6_foulTogether]
def wsX6_shift_r6 : List Cond := [Cond.selects RX6 yX6_foulTogether yX6_foulTogether, Cond.code yX6_foulTogether cX6_foulTogether 4 (some .int)]
def wsX6_shift : List Cond := .code yX6_shift cX6_shift 12 (some .int) :: ((wsX6_shift_r1 ++ (wsX6_shift_r2 ++ (wsX6_shift_r3 ++ (wsX6_shift_r4 ++ (wsX6_shift_r5 ++ wsX6_shift_r6))))) ++ wsX60 ++ wsX10 ++ wsX20 ++ wsX00 ++ wsX50)
def wsX6_endsOrder_r1 : List Cond := [Cond.fieldLink RX6 164 "GalleryBirds$Pairs" "count" "I", Cond.fieldLink RX6 121 "GalleryBirds$Pit" "doors" "I", Cond.fieldLink RX6 167 "GalleryBirds$Pairs" "galleries" "[I", Cond.fieldLink RX6 169 "GalleryBirds$Pairs" "words" "[I", Cond.methodLink RX6 160 yX0_becomeLike, Cond.instanceMethod yX0_becomeLike, Cond.selects RX0 yX0_becomeLike yX0_becomeLike, Cond.initialized RX0, Cond.code yX0_becomeLike cX0_becomeLike 2 none, Cond.fieldLink RX0 9 "GalleryBirds$Air" "fouls" "[I", Cond.methodLink RX0 19 arraycopyName, Cond.native arraycopyName, Cond.static arraycopyName, Cond.initialized "java/lang/System", Cond.fieldLink RX0 15 "GalleryBirds$Air" "down" "I", Cond.methodLink RX6 133 yX2_breathe, Cond.instanceMethod yX2_breathe, Cond.selects RX2 yX2_breathe yX2_breathe, Cond.initialized RX2, Cond.code yX2_breathe cX2_breathe 5 (some .int), Cond.fieldLink RX2 35 "GalleryBirds$Air" "fouls" "[I", Cond.fieldLink RX2 18 "GalleryBirds$Pit" "bads" "[I", Cond.methodLink RX2 40 Lib.Math.min.name, Cond.static Lib.Math.min.name]
def wsX6_endsOrder_r2 : List Cond := [Cond.initialized "java/lang/Math", Cond.code Lib.Math.min.name Lib.Math.min.code 2 (some .int), Cond.methodLink RX2 45 Lib.Math.max.name, Cond.static Lib.Math.max.name, Cond.code Lib.Math.max.name Lib.Math.max.code 2 (some .int), Cond.methodLink RX2 48 yX2_breatheHushed, Cond.instanceMethod yX2_breatheHushed, Cond.selects RX2 yX2_breatheHushed yX2_breatheHushed, Cond.code yX2_breatheHushed cX2_breatheHushed 3 (some .int), Cond.methodLink RX2 52 yX2_passAir, Cond.instanceMethod yX2_passAir, Cond.selects RX2 yX2_passAir yX2_passAir, Cond.code yX2_passAir cX2_passAir 7 (some .int), Cond.fieldLink RX2 9 "GalleryBirds$Pit" "galleries" "I", Cond.methodLink RX2 59 Lib.Math.abs.name, Cond.static Lib.Math.abs.name, Cond.code Lib.Math.abs.name Lib.Math.abs.code 1 (some .int), Cond.methodLink RX2 55 yX2_dropBirds, Cond.instanceMethod yX2_dropBirds, Cond.selects RX2 yX2_dropBirds yX2_dropBirds, Cond.code yX2_dropBirds cX2_dropBirds 4 (some .int), Cond.fieldLink RX2 70 "GalleryBirds$Air" "down" "I", Cond.methodLink RX2 63 yX0_isDown, Cond.instanceMethod yX0_isDown]
def wsX6_endsOrder_r3 : List Cond := [Cond.selects RX0 yX0_isDown yX0_isDown, Cond.code yX0_isDown cX0_isDown 2 (some .boolean), Cond.methodLink RX2 67 yX2_bears, Cond.instanceMethod yX2_bears, Cond.selects RX2 yX2_bears yX2_bears, Cond.code yX2_bears cX2_bears 2 (some .int), Cond.fieldLink RX2 22 "GalleryBirds$Pit" "kinds" "[I", Cond.fieldLink RX2 25 "GalleryBirds$Pit" "strengths" "[I", Cond.static yX6_bearing, Cond.initialized RX6, Cond.code yX6_bearing cX6_bearing 2 (some .int), Cond.methodLink RX6 176 yX6_endsOrder, Cond.static yX6_endsOrder]
def wsX6_endsOrder : List Cond := .code yX6_endsOrder cX6_endsOrder 8 (some .boolean) :: ((wsX6_endsOrder_r1 ++ (wsX6_endsOrder_r2 ++ wsX6_endsOrder_r3)) ++ wsX10 ++ wsX20 ++ wsX00)
def wsX6_order_r1 : List Cond := [Cond.fieldLink RX6 67 "GalleryBirds" "lastFault" "I", Cond.fieldLink RX6 13 "GalleryBirds" "sheets" "[LGalleryBirds$Sheet;", Cond.fieldLink RX6 41 "GalleryBirds" "pairs" "LGalleryBirds$Pairs;", Cond.fieldLink RX6 164 "GalleryBirds$Pairs" "count" "I", Cond.fieldLink RX6 45 "GalleryBirds" "trials" "[LGalleryBirds$Air;", Cond.fieldLink RX6 27 "GalleryBirds" "air" "LGalleryBirds$Air;", Cond.fieldLink RX6 20 "GalleryBirds" "pit" "LGalleryBirds$Pit;", Cond.fieldLink RX6 49 "GalleryBirds" "orderRow" "[I", Cond.methodLink RX6 71 yX6_isSheet, Cond.static yX6_isSheet, Cond.initialized RX6, Cond.code yX6_isSheet cX6_isSheet 1 (some .boolean), Cond.methodLink RX6 75 yX6_isLane, Cond.static yX6_isLane, Cond.code yX6_isLane cX6_isLane 1 (some .boolean), Cond.methodLink RX6 156 yX6_takePairs, Cond.instanceMethod yX6_takePairs, Cond.selects RX6 yX6_takePairs yX6_takePairs, Cond.code yX6_takePairs cX6_takePairs 9 (some .int), Cond.fieldLink RX6 86 "GalleryBirds$Sheet" "cells" "[I", Cond.fieldLink RX6 167 "GalleryBirds$Pairs" "galleries" "[I", Cond.fieldLink RX6 169 "GalleryBirds$Pairs" "words" "[I", Cond.methodLink RX6 78 yX5_faultOfCells, Cond.instanceMethod yX5_faultOfCells]
def wsX6_order_r2 : List Cond := [Cond.selects RX5 yX5_faultOfCells yX5_faultOfCells, Cond.initialized RX5, Cond.code yX5_faultOfCells cX5_faultOfCells 4 (some .int), Cond.fieldLink RX5 9 "GalleryBirds$Sheet" "has" "Z", Cond.fieldLink RX5 15 "GalleryBirds$Sheet" "lane" "I", Cond.methodLink RX5 26 yX5_hasCells, Cond.instanceMethod yX5_hasCells, Cond.selects RX5 yX5_hasCells yX5_hasCells, Cond.code yX5_hasCells cX5_hasCells 3 (some .boolean), Cond.fieldLink RX5 23 "GalleryBirds$Sheet" "count" "I", Cond.methodLink RX6 82 yX6_faulted, Cond.instanceMethod yX6_faulted, Cond.selects RX6 yX6_faulted yX6_faulted, Cond.code yX6_faulted cX6_faulted 2 (some .int), Cond.methodLink RX6 137 yX6_hasMine, Cond.instanceMethod yX6_hasMine, Cond.selects RX6 yX6_hasMine yX6_hasMine, Cond.code yX6_hasMine cX6_hasMine 1 (some .boolean), Cond.fieldLink RX6 97 "GalleryBirds$Pit" "galleries" "I", Cond.methodLink RX6 100 yX6_isGallery, Cond.instanceMethod yX6_isGallery, Cond.selects RX6 yX6_isGallery yX6_isGallery, Cond.code yX6_isGallery cX6_isGallery 2 (some .boolean), Cond.methodLink RX6 124 yX6_isWord]
def wsX6_order_r3 : List Cond := [Cond.instanceMethod yX6_isWord, Cond.selects RX6 yX6_isWord yX6_isWord, Cond.code yX6_isWord cX6_isWord 2 (some .boolean), Cond.fieldLink RX6 196 "GalleryBirds$Pit" "words" "I", Cond.methodLink RX6 160 yX0_becomeLike, Cond.instanceMethod yX0_becomeLike, Cond.selects RX0 yX0_becomeLike yX0_becomeLike, Cond.initialized RX0, Cond.code yX0_becomeLike cX0_becomeLike 2 none, Cond.fieldLink RX0 9 "GalleryBirds$Air" "fouls" "[I", Cond.methodLink RX0 19 arraycopyName, Cond.native arraycopyName, Cond.static arraycopyName, Cond.initialized "java/lang/System", Cond.fieldLink RX0 15 "GalleryBirds$Air" "down" "I", Cond.methodLink RX6 176 yX6_endsOrder, Cond.static yX6_endsOrder, Cond.code yX6_endsOrder cX6_endsOrder 8 (some .boolean), Cond.fieldLink RX6 121 "GalleryBirds$Pit" "doors" "I", Cond.methodLink RX6 133 yX2_breathe, Cond.instanceMethod yX2_breathe, Cond.selects RX2 yX2_breathe yX2_breathe, Cond.initialized RX2, Cond.code yX2_breathe cX2_breathe 5 (some .int)]
def wsX6_order_r4 : List Cond := [Cond.fieldLink RX2 35 "GalleryBirds$Air" "fouls" "[I", Cond.fieldLink RX2 18 "GalleryBirds$Pit" "bads" "[I", Cond.methodLink RX2 40 Lib.Math.min.name, Cond.static Lib.Math.min.name, Cond.initialized "java/lang/Math", Cond.code Lib.Math.min.name Lib.Math.min.code 2 (some .int), Cond.methodLink RX2 45 Lib.Math.max.name, Cond.static Lib.Math.max.name, Cond.code Lib.Math.max.name Lib.Math.max.code 2 (some .int), Cond.methodLink RX2 48 yX2_breatheHushed, Cond.instanceMethod yX2_breatheHushed, Cond.selects RX2 yX2_breatheHushed yX2_breatheHushed, Cond.code yX2_breatheHushed cX2_breatheHushed 3 (some .int), Cond.methodLink RX2 52 yX2_passAir, Cond.instanceMethod yX2_passAir, Cond.selects RX2 yX2_passAir yX2_passAir, Cond.code yX2_passAir cX2_passAir 7 (some .int), Cond.fieldLink RX2 9 "GalleryBirds$Pit" "galleries" "I", Cond.methodLink RX2 59 Lib.Math.abs.name, Cond.static Lib.Math.abs.name, Cond.code Lib.Math.abs.name Lib.Math.abs.code 1 (some .int), Cond.methodLink RX2 55 yX2_dropBirds, Cond.instanceMethod yX2_dropBirds, Cond.selects RX2 yX2_dropBirds yX2_dropBirds]
def wsX6_order_r5 : List Cond := [Cond.code yX2_dropBirds cX2_dropBirds 4 (some .int), Cond.fieldLink RX2 70 "GalleryBirds$Air" "down" "I", Cond.methodLink RX2 63 yX0_isDown, Cond.instanceMethod yX0_isDown, Cond.selects RX0 yX0_isDown yX0_isDown, Cond.code yX0_isDown cX0_isDown 2 (some .boolean), Cond.methodLink RX2 67 yX2_bears, Cond.instanceMethod yX2_bears, Cond.selects RX2 yX2_bears yX2_bears, Cond.code yX2_bears cX2_bears 2 (some .int), Cond.fieldLink RX2 22 "GalleryBirds$Pit" "kinds" "[I", Cond.fieldLink RX2 25 "GalleryBirds$Pit" "strengths" "[I", Cond.static yX6_bearing, Cond.code yX6_bearing cX6_bearing 2 (some .int)]
def wsX6_order : List Cond := .code yX6_order cX6_order 7 (some .int) :: ((wsX6_order_r1 ++ (wsX6_order_r2 ++ (wsX6_order_r3 ++ (wsX6_order_r4 ++ wsX6_order_r5)))) ++ wsX60 ++ wsX10 ++ wsX50 ++ wsX20 ++ wsX00)
def wsX6_dropsWithDoors_r1 : List Cond := [Cond.fieldLink RX6 45 "GalleryBirds" "trials" "[LGalleryBirds$Air;", Cond.fieldLink RX6 27 "GalleryBirds" "air" "LGalleryBirds$Air;", Cond.fieldLink RX6 41 "GalleryBirds" "pairs" "LGalleryBirds$Pairs;", Cond.fieldLink RX6 164 "GalleryBirds$Pairs" "count" "I", Cond.fieldLink RX6 20 "GalleryBirds" "pit" "LGalleryBirds$Pit;", Cond.fieldLink RX6 167 "GalleryBirds$Pairs" "galleries" "[I", Cond.fieldLink RX6 169 "GalleryBirds$Pairs" "words" "[I", Cond.methodLink RX6 160 yX0_becomeLike, Cond.instanceMethod yX0_becomeLike, Cond.selects RX0 yX0_becomeLike yX0_becomeLike, Cond.initialized RX0, Cond.code yX0_becomeLike cX0_becomeLike 2 none, Cond.fieldLink RX0 9 "GalleryBirds$Air" "fouls" "[I", Cond.methodLink RX0 19 arraycopyName, Cond.native arraycopyName, Cond.static arraycopyName, Cond.initialized "java/lang/System", Cond.fieldLink RX0 15 "GalleryBirds$Air" "down" "I", Cond.methodLink RX6 133 yX2_breathe, Cond.instanceMethod yX2_breathe, Cond.selects RX2 yX2_breathe yX2_breathe, Cond.initialized RX2, Cond.code yX2_breathe cX2_breathe 5 (some .int), Cond.fieldLink RX2 35 "GalleryBirds$Air" "fouls" "[I"]
def wsX6_dropsWithDoors_r2 : List Cond := [Cond.fieldLink RX2 18 "GalleryBirds$Pit" "bads" "[I", Cond.methodLink RX2 40 Lib.Math.min.name, Cond.static Lib.Math.min.name, Cond.initialized "java/lang/Math", Cond.code Lib.Math.min.name Lib.Math.min.code 2 (some .int), Cond.methodLink RX2 45 Lib.Math.max.name, Cond.static Lib.Math.max.name, Cond.code Lib.Math.max.name Lib.Math.max.code 2 (some .int), Cond.methodLink RX2 48 yX2_breatheHushed, Cond.instanceMethod yX2_breatheHushed, Cond.selects RX2 yX2_breatheHushed yX2_breatheHushed, Cond.code yX2_breatheHushed cX2_breatheHushed 3 (some .int), Cond.methodLink RX2 52 yX2_passAir, Cond.instanceMethod yX2_passAir, Cond.selects RX2 yX2_passAir yX2_passAir, Cond.code yX2_passAir cX2_passAir 7 (some .int), Cond.fieldLink RX2 9 "GalleryBirds$Pit" "galleries" "I", Cond.methodLink RX2 59 Lib.Math.abs.name, Cond.static Lib.Math.abs.name, Cond.code Lib.Math.abs.name Lib.Math.abs.code 1 (some .int), Cond.methodLink RX2 55 yX2_dropBirds, Cond.instanceMethod yX2_dropBirds, Cond.selects RX2 yX2_dropBirds yX2_dropBirds, Cond.code yX2_dropBirds cX2_dropBirds 4 (some .int)]
def wsX6_dropsWithDoors_r3 : List Cond := [Cond.fieldLink RX2 70 "GalleryBirds$Air" "down" "I", Cond.methodLink RX2 63 yX0_isDown, Cond.instanceMethod yX0_isDown, Cond.selects RX0 yX0_isDown yX0_isDown, Cond.code yX0_isDown cX0_isDown 2 (some .boolean), Cond.methodLink RX2 67 yX2_bears, Cond.instanceMethod yX2_bears, Cond.selects RX2 yX2_bears yX2_bears, Cond.code yX2_bears cX2_bears 2 (some .int), Cond.fieldLink RX2 22 "GalleryBirds$Pit" "kinds" "[I", Cond.fieldLink RX2 25 "GalleryBirds$Pit" "strengths" "[I", Cond.static yX6_bearing, Cond.initialized RX6, Cond.code yX6_bearing cX6_bearing 2 (some .int), Cond.methodLink RX6 148 yJ6_bitCount_0f7a4, Cond.static yJ6_bitCount_0f7a4, Cond.initialized RJ6, Cond.code yJ6_bitCount_0f7a4 cJ6_bitCount_0f7a4 1 (some .int), Cond.constant RJ6 265 (1431655765), Cond.constant RJ6 266 (858993459), Cond.constant RJ6 267 (252645135)]
def wsX6_dropsWithDoors : List Cond := .code yX6_dropsWithDoors cX6_dropsWithDoors 5 (some .int) :: ((wsX6_dropsWithDoors_r1 ++ (wsX6_dropsWithDoors_r2 ++ wsX6_dropsWithDoors_r3)) ++ wsX60 ++ wsX10 ++ wsX00 ++ wsX20)
def wsX6_shut_r1 : List Cond := [Cond.fieldLink RX6 67 "GalleryBirds" "lastFault" "I", Cond.fieldLink RX6 13 "GalleryBirds" "sheets" "[LGalleryBirds$Sheet;", Cond.fieldLink RX6 20 "GalleryBirds" "pit" "LGalleryBirds$Pit;", Cond.fieldLink RX6 97 "GalleryBirds$Pit" "galleries" "I", Cond.methodLink RX6 71 yX6_isSheet, Cond.static yX6_isSheet, Cond.initialized RX6, Cond.code yX6_isSheet cX6_isSheet 1 (some .boolean), Cond.methodLink RX6 75 yX6_isLane, Cond.static yX6_isLane, Cond.code yX6_isLane cX6_isLane 1 (some .boolean), Cond.methodLink RX6 156 yX6_takePairs, Cond.instanceMethod yX6_takePairs, Cond.selects RX6 yX6_takePairs yX6_takePairs, Cond.code yX6_takePairs cX6_takePairs 9 (some .int), Cond.fieldLink RX6 86 "GalleryBirds$Sheet" "cells" "[I", Cond.fieldLink RX6 41 "GalleryBirds" "pairs" "LGalleryBirds$Pairs;", Cond.fieldLink RX6 167 "GalleryBirds$Pairs" "galleries" "[I", Cond.fieldLink RX6 169 "GalleryBirds$Pairs" "words" "[I", Cond.fieldLink RX6 164 "GalleryBirds$Pairs" "count" "I", Cond.methodLink RX6 78 yX5_faultOfCells, Cond.instanceMethod yX5_faultOfCells, Cond.selects RX5 yX5_faultOfCells yX5_faultOfCells, Cond.initialized RX5]
def wsX6_shut_r2 : List Cond := [Cond.code yX5_faultOfCells cX5_faultOfCells 4 (some .int), Cond.fieldLink RX5 9 "GalleryBirds$Sheet" "has" "Z", Cond.fieldLink RX5 15 "GalleryBirds$Sheet" "lane" "I", Cond.methodLink RX5 26 yX5_hasCells, Cond.instanceMethod yX5_hasCells, Cond.selects RX5 yX5_hasCells yX5_hasCells, Cond.code yX5_hasCells cX5_hasCells 3 (some .boolean), Cond.fieldLink RX5 23 "GalleryBirds$Sheet" "count" "I", Cond.methodLink RX6 82 yX6_faulted, Cond.instanceMethod yX6_faulted, Cond.selects RX6 yX6_faulted yX6_faulted, Cond.code yX6_faulted cX6_faulted 2 (some .int), Cond.methodLink RX6 137 yX6_hasMine, Cond.instanceMethod yX6_hasMine, Cond.selects RX6 yX6_hasMine yX6_hasMine, Cond.code yX6_hasMine cX6_hasMine 1 (some .boolean), Cond.methodLink RX6 100 yX6_isGallery, Cond.instanceMethod yX6_isGallery, Cond.selects RX6 yX6_isGallery yX6_isGallery, Cond.code yX6_isGallery cX6_isGallery 2 (some .boolean), Cond.methodLink RX6 124 yX6_isWord, Cond.instanceMethod yX6_isWord, Cond.selects RX6 yX6_isWord yX6_isWord, Cond.code yX6_isWord cX6_isWord 2 (some .boolean)]
def wsX6_shut_r3 : List Cond := [Cond.fieldLink RX6 196 "GalleryBirds$Pit" "words" "I", Cond.methodLink RX6 180 yX6_dropsWithDoors, Cond.instanceMethod yX6_dropsWithDoors, Cond.selects RX6 yX6_dropsWithDoors yX6_dropsWithDoors, Cond.code yX6_dropsWithDoors cX6_dropsWithDoors 5 (some .int), Cond.fieldLink RX6 45 "GalleryBirds" "trials" "[LGalleryBirds$Air;", Cond.fieldLink RX6 27 "GalleryBirds" "air" "LGalleryBirds$Air;", Cond.methodLink RX6 160 yX0_becomeLike, Cond.instanceMethod yX0_becomeLike, Cond.selects RX0 yX0_becomeLike yX0_becomeLike, Cond.initialized RX0, Cond.code yX0_becomeLike cX0_becomeLike 2 none, Cond.fieldLink RX0 9 "GalleryBirds$Air" "fouls" "[I", Cond.methodLink RX0 19 arraycopyName, Cond.native arraycopyName, Cond.static arraycopyName, Cond.initialized "java/lang/System", Cond.fieldLink RX0 15 "GalleryBirds$Air" "down" "I", Cond.methodLink RX6 133 yX2_breathe, Cond.instanceMethod yX2_breathe, Cond.selects RX2 yX2_breathe yX2_breathe, Cond.initialized RX2, Cond.code yX2_breathe cX2_breathe 5 (some .int), Cond.fieldLink RX2 35 "GalleryBirds$Air" "fouls" "[I"]
def wsX6_shut_r4 : List Cond := [Cond.fieldLink RX2 18 "GalleryBirds$Pit" "bads" "[I", Cond.methodLink RX2 40 Lib.Math.min.name, Cond.static Lib.Math.min.name, Cond.initialized "java/lang/Math", Cond.code Lib.Math.min.name Lib.Math.min.code 2 (some .int), Cond.methodLink RX2 45 Lib.Math.max.name, Cond.static Lib.Math.max.name, Cond.code Lib.Math.max.name Lib.Math.max.code 2 (some .int), Cond.methodLink RX2 48 yX2_breatheHushed, Cond.instanceMethod yX2_breatheHushed, Cond.selects RX2 yX2_breatheHushed yX2_breatheHushed, Cond.code yX2_breatheHushed cX2_breatheHushed 3 (some .int), Cond.methodLink RX2 52 yX2_passAir, Cond.instanceMethod yX2_passAir, Cond.selects RX2 yX2_passAir yX2_passAir, Cond.code yX2_passAir cX2_passAir 7 (some .int), Cond.fieldLink RX2 9 "GalleryBirds$Pit" "galleries" "I", Cond.methodLink RX2 59 Lib.Math.abs.name, Cond.static Lib.Math.abs.name, Cond.code Lib.Math.abs.name Lib.Math.abs.code 1 (some .int), Cond.methodLink RX2 55 yX2_dropBirds, Cond.instanceMethod yX2_dropBirds, Cond.selects RX2 yX2_dropBirds yX2_dropBirds, Cond.code yX2_dropBirds cX2_dropBirds 4 (some .int)]
def wsX6_shut_r5 : List Cond := [Cond.fieldLink RX2 70 "GalleryBirds$Air" "down" "I", Cond.methodLink RX2 63 yX0_isDown, Cond.instanceMethod yX0_isDown, Cond.selects RX0 yX0_isDown yX0_isDown, Cond.code yX0_isDown cX0_isDown 2 (some .boolean), Cond.methodLink RX2 67 yX2_bears, Cond.instanceMethod yX2_bears, Cond.selects RX2 yX2_bears yX2_bears, Cond.code yX2_bears cX2_bears 2 (some .int), Cond.fieldLink RX2 22 "GalleryBirds$Pit" "kinds" "[I", Cond.fieldLink RX2 25 "GalleryBirds$Pit" "strengths" "[I", Cond.static yX6_bearing, Cond.code yX6_bearing cX6_bearing 2 (some .int), Cond.methodLink RX6 148 yJ6_bitCount_0f7a4, Cond.static yJ6_bitCount_0f7a4, Cond.initialized RJ6, Cond.code yJ6_bitCount_0f7a4 cJ6_bitCount_0f7a4 1 (some .int), Cond.constant RJ6 265 (1431655765), Cond.constant RJ6 266 (858993459), Cond.constant RJ6 267 (252645135)]
def wsX6_shut : List Cond := .code yX6_shut cX6_shut 11 (some .int) :: ((wsX6_shut_r1 ++ (wsX6_shut_r2 ++ (wsX6_shut_r3 ++ (wsX6_shut_r4 ++ wsX6_shut_r5)))) ++ wsX60 ++ wsX20 ++ wsX50 ++ wsX10 ++ wsX00)
def wsX6_rests_r1 : List Cond := [Cond.fieldLink RX6 45 "GalleryBirds" "trials" "[LGalleryBirds$Air;", Cond.fieldLink RX6 27 "GalleryBirds" "air" "LGalleryBirds$Air;", Cond.fieldLink RX6 20 "GalleryBirds" "pit" "LGalleryBirds$Pit;", Cond.fieldLink RX6 121 "GalleryBirds$Pit" "doors" "I", Cond.methodLink RX6 137 yX6_hasMine, Cond.instanceMethod yX6_hasMine, Cond.selects RX6 yX6_hasMine yX6_hasMine, Cond.initialized RX6, Cond.code yX6_hasMine cX6_hasMine 1 (some .boolean), Cond.fieldLink RX6 97 "GalleryBirds$Pit" "galleries" "I", Cond.methodLink RX6 160 yX0_becomeLike, Cond.instanceMethod yX0_becomeLike, Cond.selects RX0 yX0_becomeLike yX0_becomeLike, Cond.initialized RX0, Cond.code yX0_becomeLike cX0_becomeLike 2 none, Cond.fieldLink RX0 9 "GalleryBirds$Air" "fouls" "[I", Cond.methodLink RX0 19 arraycopyName, Cond.native arraycopyName, Cond.static arraycopyName, Cond.initialized "java/lang/System", Cond.fieldLink RX0 15 "GalleryBirds$Air" "down" "I", Cond.methodLink RX6 183 yX2_passAir, Cond.instanceMethod yX2_passAir, Cond.selects RX2 yX2_passAir yX2_passAir]
def wsX6_rests_r2 : List Cond := [Cond.initialized RX2, Cond.code yX2_passAir cX2_passAir 7 (some .int), Cond.fieldLink RX2 9 "GalleryBirds$Pit" "galleries" "I", Cond.fieldLink RX2 35 "GalleryBirds$Air" "fouls" "[I", Cond.methodLink RX2 59 Lib.Math.abs.name, Cond.static Lib.Math.abs.name, Cond.initialized "java/lang/Math", Cond.code Lib.Math.abs.name Lib.Math.abs.code 1 (some .int)]
def wsX6_rests : List Cond := .code yX6_rests cX6_rests 3 (some .int) :: ((wsX6_rests_r1 ++ wsX6_rests_r2) ++ wsX60 ++ wsX20 ++ wsX00)
def wsX6_clears_r1 : List Cond := [Cond.fieldLink RX6 45 "GalleryBirds" "trials" "[LGalleryBirds$Air;", Cond.fieldLink RX6 27 "GalleryBirds" "air" "LGalleryBirds$Air;", Cond.fieldLink RX6 106 "GalleryBirds$Air" "fouls" "[I", Cond.fieldLink RX6 20 "GalleryBirds" "pit" "LGalleryBirds$Pit;", Cond.fieldLink RX6 121 "GalleryBirds$Pit" "doors" "I", Cond.methodLink RX6 100 yX6_isGallery, Cond.instanceMethod yX6_isGallery, Cond.selects RX6 yX6_isGallery yX6_isGallery, Cond.initialized RX6, Cond.code yX6_isGallery cX6_isGallery 2 (some .boolean), Cond.fieldLink RX6 97 "GalleryBirds$Pit" "galleries" "I", Cond.methodLink RX6 130 yX6_isFoul, Cond.static yX6_isFoul, Cond.code yX6_isFoul cX6_isFoul 1 (some .boolean), Cond.methodLink RX6 160 yX0_becomeLike, Cond.instanceMethod yX0_becomeLike, Cond.selects RX0 yX0_becomeLike yX0_becomeLike, Cond.initialized RX0, Cond.code yX0_becomeLike cX0_becomeLike 2 none, Cond.fieldLink RX0 9 "GalleryBirds$Air" "fouls" "[I", Cond.methodLink RX0 19 arraycopyName, Cond.native arraycopyName, Cond.static arraycopyName, Cond.initialized "java/lang/System"]
def wsX6_clears_r2 : List Cond := [Cond.fieldLink RX0 15 "GalleryBirds$Air" "down" "I", Cond.methodLink RX6 183 yX2_passAir, Cond.instanceMethod yX2_passAir, Cond.selects RX2 yX2_passAir yX2_passAir, Cond.initialized RX2, Cond.code yX2_passAir cX2_passAir 7 (some .int), Cond.fieldLink RX2 9 "GalleryBirds$Pit" "galleries" "I", Cond.fieldLink RX2 35 "GalleryBirds$Air" "fouls" "[I", Cond.methodLink RX2 59 Lib.Math.abs.name, Cond.static Lib.Math.abs.name, Cond.initialized "java/lang/Math", Cond.code Lib.Math.abs.name Lib.Math.abs.code 1 (some .int)]
def wsX6_clears : List Cond := .code yX6_clears cX6_clears 5 (some .int) :: ((wsX6_clears_r1 ++ wsX6_clears_r2) ++ wsX60 ++ wsX00 ++ wsX20)
def wsX6_seatFrom_r1 : List Cond := [Cond.fieldLink RX6 97 "GalleryBirds$Pit" "galleries" "I", Cond.fieldLink RX6 186 "GalleryBirds$Seating" "most" "I", Cond.fieldLink RX6 285 "GalleryBirds$Seating" "row" "[I", Cond.fieldLink RX6 106 "GalleryBirds$Air" "fouls" "[I", Cond.methodLink RX6 281 yX4_keep, Cond.instanceMethod yX4_keep, Cond.selects RX4 yX4_keep yX4_keep, Cond.initialized RX4, Cond.code yX4_keep cX4_keep 2 none, Cond.fieldLink RX4 18 "GalleryBirds$Seating" "most" "I", Cond.fieldLink RX4 9 "GalleryBirds$Seating" "row" "[I", Cond.fieldLink RX4 15 "GalleryBirds$Seating" "best" "[I", Cond.methodLink RX4 22 arraycopyName, Cond.native arraycopyName, Cond.static arraycopyName, Cond.initialized "java/lang/System", Cond.methodLink RX6 112 yX2_bears, Cond.instanceMethod yX2_bears, Cond.selects RX2 yX2_bears yX2_bears, Cond.initialized RX2, Cond.code yX2_bears cX2_bears 2 (some .int), Cond.fieldLink RX2 22 "GalleryBirds$Pit" "kinds" "[I", Cond.fieldLink RX2 25 "GalleryBirds$Pit" "strengths" "[I", Cond.static yX6_bearing]
def wsX6_seatFrom_r2 : List Cond := [Cond.initialized RX6, Cond.code yX6_bearing cX6_bearing 2 (some .int), Cond.methodLink RX6 189 yX6_seatFrom, Cond.static yX6_seatFrom]
def wsX6_seatFrom : List Cond := .code yX6_seatFrom cX6_seatFrom 8 none :: ((wsX6_seatFrom_r1 ++ wsX6_seatFrom_r2) ++ wsX20 ++ wsX40 ++ wsX00)
def wsX6_perches_r1 : List Cond := [Cond.fieldLink RX6 20 "GalleryBirds" "pit" "LGalleryBirds$Pit;", Cond.fieldLink RX6 97 "GalleryBirds$Pit" "galleries" "I", Cond.fieldLink RX6 56 "GalleryBirds" "seating" "LGalleryBirds$Seating;", Cond.fieldLink RX6 186 "GalleryBirds$Seating" "most" "I", Cond.fieldLink RX6 27 "GalleryBirds" "air" "LGalleryBirds$Air;", Cond.fieldLink RX6 193 "GalleryBirds$Seating" "best" "[I", Cond.methodLink RX6 137 yX6_hasMine, Cond.instanceMethod yX6_hasMine, Cond.selects RX6 yX6_hasMine yX6_hasMine, Cond.initialized RX6, Cond.code yX6_hasMine cX6_hasMine 1 (some .boolean), Cond.methodLink RX6 189 yX6_seatFrom, Cond.static yX6_seatFrom, Cond.code yX6_seatFrom cX6_seatFrom 8 none, Cond.fieldLink RX6 285 "GalleryBirds$Seating" "row" "[I", Cond.fieldLink RX6 106 "GalleryBirds$Air" "fouls" "[I", Cond.methodLink RX6 281 yX4_keep, Cond.instanceMethod yX4_keep, Cond.selects RX4 yX4_keep yX4_keep, Cond.initialized RX4, Cond.code yX4_keep cX4_keep 2 none, Cond.fieldLink RX4 18 "GalleryBirds$Seating" "most" "I", Cond.fieldLink RX4 9 "GalleryBirds$Seating" "row" "[I", Cond.fieldLink RX4 15 "GalleryBirds$Seating" "best" "[I"]
def wsX6_perches_r2 : List Cond := [Cond.methodLink RX4 22 arraycopyName, Cond.native arraycopyName, Cond.static arraycopyName, Cond.initialized "java/lang/System", Cond.methodLink RX6 112 yX2_bears, Cond.instanceMethod yX2_bears, Cond.selects RX2 yX2_bears yX2_bears, Cond.initialized RX2, Cond.code yX2_bears cX2_bears 2 (some .int), Cond.fieldLink RX2 22 "GalleryBirds$Pit" "kinds" "[I", Cond.fieldLink RX2 25 "GalleryBirds$Pit" "strengths" "[I", Cond.static yX6_bearing, Cond.code yX6_bearing cX6_bearing 2 (some .int)]
def wsX6_perches : List Cond := .code yX6_perches cX6_perches 2 (some .int) :: ((wsX6_perches_r1 ++ wsX6_perches_r2) ++ wsX60 ++ wsX20 ++ wsX40 ++ wsX00)
def wsX6_airBehind_r1 : List Cond := [Cond.fieldLink RX6 45 "GalleryBirds" "trials" "[LGalleryBirds$Air;", Cond.fieldLink RX6 27 "GalleryBirds" "air" "LGalleryBirds$Air;", Cond.fieldLink RX6 20 "GalleryBirds" "pit" "LGalleryBirds$Pit;", Cond.fieldLink RX6 121 "GalleryBirds$Pit" "doors" "I", Cond.methodLink RX6 160 yX0_becomeLike, Cond.instanceMethod yX0_becomeLike, Cond.selects RX0 yX0_becomeLike yX0_becomeLike, Cond.initialized RX0, Cond.code yX0_becomeLike cX0_becomeLike 2 none, Cond.fieldLink RX0 9 "GalleryBirds$Air" "fouls" "[I", Cond.methodLink RX0 19 arraycopyName, Cond.native arraycopyName, Cond.static arraycopyName, Cond.initialized "java/lang/System", Cond.fieldLink RX0 15 "GalleryBirds$Air" "down" "I", Cond.methodLink RX6 133 yX2_breathe, Cond.instanceMethod yX2_breathe, Cond.selects RX2 yX2_breathe yX2_breathe, Cond.initialized RX2, Cond.code yX2_breathe cX2_breathe 5 (some .int), Cond.fieldLink RX2 35 "GalleryBirds$Air" "fouls" "[I", Cond.fieldLink RX2 18 "GalleryBirds$Pit" "bads" "[I", Cond.methodLink RX2 40 Lib.Math.min.name, Cond.static Lib.Math.min.name]
def wsX6_airBehind_r2 : List Cond := [Cond.initialized "java/lang/Math", Cond.code Lib.Math.min.name Lib.Math.min.code 2 (some .int), Cond.methodLink RX2 45 Lib.Math.max.name, Cond.static Lib.Math.max.name, Cond.code Lib.Math.max.name Lib.Math.max.code 2 (some .int), Cond.methodLink RX2 48 yX2_breatheHushed, Cond.instanceMethod yX2_breatheHushed, Cond.selects RX2 yX2_breatheHushed yX2_breatheHushed, Cond.code yX2_breatheHushed cX2_breatheHushed 3 (some .int), Cond.methodLink RX2 52 yX2_passAir, Cond.instanceMethod yX2_passAir, Cond.selects RX2 yX2_passAir yX2_passAir, Cond.code yX2_passAir cX2_passAir 7 (some .int), Cond.fieldLink RX2 9 "GalleryBirds$Pit" "galleries" "I", Cond.methodLink RX2 59 Lib.Math.abs.name, Cond.static Lib.Math.abs.name, Cond.code Lib.Math.abs.name Lib.Math.abs.code 1 (some .int), Cond.methodLink RX2 55 yX2_dropBirds, Cond.instanceMethod yX2_dropBirds, Cond.selects RX2 yX2_dropBirds yX2_dropBirds, Cond.code yX2_dropBirds cX2_dropBirds 4 (some .int), Cond.fieldLink RX2 70 "GalleryBirds$Air" "down" "I", Cond.methodLink RX2 63 yX0_isDown, Cond.instanceMethod yX0_isDown]
def wsX6_airBehind_r3 : List Cond := [Cond.selects RX0 yX0_isDown yX0_isDown, Cond.code yX0_isDown cX0_isDown 2 (some .boolean), Cond.methodLink RX2 67 yX2_bears, Cond.instanceMethod yX2_bears, Cond.selects RX2 yX2_bears yX2_bears, Cond.code yX2_bears cX2_bears 2 (some .int), Cond.fieldLink RX2 22 "GalleryBirds$Pit" "kinds" "[I", Cond.fieldLink RX2 25 "GalleryBirds$Pit" "strengths" "[I", Cond.static yX6_bearing, Cond.initialized RX6, Cond.code yX6_bearing cX6_bearing 2 (some .int)]
def wsX6_airBehind : List Cond := .code yX6_airBehind cX6_airBehind 4 (some (.object "GalleryBirds$Air")) :: ((wsX6_airBehind_r1 ++ (wsX6_airBehind_r2 ++ wsX6_airBehind_r3)) ++ wsX60 ++ wsX20 ++ wsX00)
def wsX6_isAsTold : List Cond := .code yX6_isAsTold cX6_isAsTold 5 (some .boolean) :: ([.fieldLink RX6 20 "GalleryBirds" "pit" "LGalleryBirds$Pit;", .fieldLink RX6 97 "GalleryBirds$Pit" "galleries" "I", .fieldLink RX6 106 "GalleryBirds$Air" "fouls" "[I"] ++ wsX60 ++ wsX20 ++ wsX00)
def wsX6_found_r1 : List Cond := [Cond.fieldLink RX6 67 "GalleryBirds" "lastFault" "I", Cond.fieldLink RX6 13 "GalleryBirds" "sheets" "[LGalleryBirds$Sheet;", Cond.fieldLink RX6 20 "GalleryBirds" "pit" "LGalleryBirds$Pit;", Cond.fieldLink RX6 97 "GalleryBirds$Pit" "galleries" "I", Cond.fieldLink RX6 196 "GalleryBirds$Pit" "words" "I", Cond.fieldLink RX6 86 "GalleryBirds$Sheet" "cells" "[I", Cond.methodLink RX6 71 yX6_isSheet, Cond.static yX6_isSheet, Cond.initialized RX6, Cond.code yX6_isSheet cX6_isSheet 1 (some .boolean), Cond.methodLink RX6 75 yX6_isLane, Cond.static yX6_isLane, Cond.code yX6_isLane cX6_isLane 1 (some .boolean), Cond.methodLink RX6 137 yX6_hasMine, Cond.instanceMethod yX6_hasMine, Cond.selects RX6 yX6_hasMine yX6_hasMine, Cond.code yX6_hasMine cX6_hasMine 1 (some .boolean), Cond.methodLink RX6 78 yX5_faultOfCells, Cond.instanceMethod yX5_faultOfCells, Cond.selects RX5 yX5_faultOfCells yX5_faultOfCells, Cond.initialized RX5, Cond.code yX5_faultOfCells cX5_faultOfCells 4 (some .int), Cond.fieldLink RX5 9 "GalleryBirds$Sheet" "has" "Z", Cond.fieldLink RX5 15 "GalleryBirds$Sheet" "lane" "I"]
def wsX6_found_r2 : List Cond := [Cond.methodLink RX5 26 yX5_hasCells, Cond.instanceMethod yX5_hasCells, Cond.selects RX5 yX5_hasCells yX5_hasCells, Cond.code yX5_hasCells cX5_hasCells 3 (some .boolean), Cond.fieldLink RX5 23 "GalleryBirds$Sheet" "count" "I", Cond.methodLink RX6 82 yX6_faulted, Cond.instanceMethod yX6_faulted, Cond.selects RX6 yX6_faulted yX6_faulted, Cond.code yX6_faulted cX6_faulted 2 (some .int), Cond.methodLink RX6 198 yX6_airBehind, Cond.instanceMethod yX6_airBehind, Cond.selects RX6 yX6_airBehind yX6_airBehind, Cond.code yX6_airBehind cX6_airBehind 4 (some (.object "GalleryBirds$Air")), Cond.fieldLink RX6 45 "GalleryBirds" "trials" "[LGalleryBirds$Air;", Cond.fieldLink RX6 27 "GalleryBirds" "air" "LGalleryBirds$Air;", Cond.fieldLink RX6 121 "GalleryBirds$Pit" "doors" "I", Cond.methodLink RX6 160 yX0_becomeLike, Cond.instanceMethod yX0_becomeLike, Cond.selects RX0 yX0_becomeLike yX0_becomeLike, Cond.initialized RX0, Cond.code yX0_becomeLike cX0_becomeLike 2 none, Cond.fieldLink RX0 9 "GalleryBirds$Air" "fouls" "[I", Cond.methodLink RX0 19 arraycopyName, Cond.native arraycopyName]
def wsX6_found_r3 : List Cond := [Cond.static arraycopyName, Cond.initialized "java/lang/System", Cond.fieldLink RX0 15 "GalleryBirds$Air" "down" "I", Cond.methodLink RX6 133 yX2_breathe, Cond.instanceMethod yX2_breathe, Cond.selects RX2 yX2_breathe yX2_breathe, Cond.initialized RX2, Cond.code yX2_breathe cX2_breathe 5 (some .int), Cond.fieldLink RX2 35 "GalleryBirds$Air" "fouls" "[I", Cond.fieldLink RX2 18 "GalleryBirds$Pit" "bads" "[I", Cond.methodLink RX2 40 Lib.Math.min.name, Cond.static Lib.Math.min.name, Cond.initialized "java/lang/Math", Cond.code Lib.Math.min.name Lib.Math.min.code 2 (some .int), Cond.methodLink RX2 45 Lib.Math.max.name, Cond.static Lib.Math.max.name, Cond.code Lib.Math.max.name Lib.Math.max.code 2 (some .int), Cond.methodLink RX2 48 yX2_breatheHushed, Cond.instanceMethod yX2_breatheHushed, Cond.selects RX2 yX2_breatheHushed yX2_breatheHushed, Cond.code yX2_breatheHushed cX2_breatheHushed 3 (some .int), Cond.methodLink RX2 52 yX2_passAir, Cond.instanceMethod yX2_passAir, Cond.selects RX2 yX2_passAir yX2_passAir]
def wsX6_found_r4 : List Cond := [Cond.code yX2_passAir cX2_passAir 7 (some .int), Cond.fieldLink RX2 9 "GalleryBirds$Pit" "galleries" "I", Cond.methodLink RX2 59 Lib.Math.abs.name, Cond.static Lib.Math.abs.name, Cond.code Lib.Math.abs.name Lib.Math.abs.code 1 (some .int), Cond.methodLink RX2 55 yX2_dropBirds, Cond.instanceMethod yX2_dropBirds, Cond.selects RX2 yX2_dropBirds yX2_dropBirds, Cond.code yX2_dropBirds cX2_dropBirds 4 (some .int), Cond.fieldLink RX2 70 "GalleryBirds$Air" "down" "I", Cond.methodLink RX2 63 yX0_isDown, Cond.instanceMethod yX0_isDown, Cond.selects RX0 yX0_isDown yX0_isDown, Cond.code yX0_isDown cX0_isDown 2 (some .boolean), Cond.methodLink RX2 67 yX2_bears, Cond.instanceMethod yX2_bears, Cond.selects RX2 yX2_bears yX2_bears, Cond.code yX2_bears cX2_bears 2 (some .int), Cond.fieldLink RX2 22 "GalleryBirds$Pit" "kinds" "[I", Cond.fieldLink RX2 25 "GalleryBirds$Pit" "strengths" "[I", Cond.static yX6_bearing, Cond.code yX6_bearing cX6_bearing 2 (some .int), Cond.methodLink RX6 202 yX6_isAsTold, Cond.instanceMethod yX6_isAsTold]
def wsX6_found_r5 : List Cond := [Cond.selects RX6 yX6_isAsTold yX6_isAsTold, Cond.code yX6_isAsTold cX6_isAsTold 5 (some .boolean), Cond.fieldLink RX6 106 "GalleryBirds$Air" "fouls" "[I"]
def wsX6_found : List Cond := .code yX6_found cX6_found 10 (some .int) :: ((wsX6_found_r1 ++ (wsX6_found_r2 ++ (wsX6_found_r3 ++ (wsX6_found_r4 ++ wsX6_found_r5)))) ++ wsX60 ++ wsX20 ++ wsX50 ++ wsX00)
def wsX6_reading : List Cond := .code yX6_reading cX6_reading 4 (some .int) :: ([.fieldLink RX6 34 "GalleryBirds" "readings" "LGalleryBirds$Readings;", .fieldLink RX6 206 "GalleryBirds$Readings" "count" "I", .methodLink RX6 100 yX6_isGallery, .instanceMethod yX6_isGallery, .selects RX6 yX6_isGallery yX6_isGallery, .initialized RX6, .code yX6_isGallery cX6_isGallery 2 (some .boolean), .fieldLink RX6 20 "GalleryBirds" "pit" "LGalleryBirds$Pit;", .fieldLink RX6 97 "GalleryBirds$Pit" "galleries" "I", .methodLink RX6 130 yX6_isFoul, .static yX6_isFoul, .code yX6_isFoul cX6_isFoul 1 (some .boolean), .methodLink RX6 207 yX3_write, .instanceMethod yX3_write, .selects RX3 yX3_write yX3_write, .initialized RX3, .code yX3_write cX3_write 5 (some .int), .fieldLink RX3 9 "GalleryBirds$Readings" "count" "I", .fieldLink RX3 15 "GalleryBirds$Readings" "galleries" "[I", .fieldLink RX3 19 "GalleryBirds$Readings" "fouls" "[I", .fieldLink RX3 22 "GalleryBirds$Readings" "dropped" "[I"] ++ wsX60 ++ wsX30 ++ wsX20)
def wsX6_back : List Cond := .code yX6_back cX6_back 2 (some .int) :: ([.fieldLink RX6 34 "GalleryBirds" "readings" "LGalleryBirds$Readings;", .fieldLink RX6 206 "GalleryBirds$Readings" "count" "I"] ++ wsX60 ++ wsX30)
def wsX6_strengths_r1 : List Cond := [Cond.fieldLink RX6 34 "GalleryBirds" "readings" "LGalleryBirds$Readings;", Cond.fieldLink RX6 20 "GalleryBirds" "pit" "LGalleryBirds$Pit;", Cond.fieldLink RX6 103 "GalleryBirds$Pit" "kinds" "[I", Cond.methodLink RX6 100 yX6_isGallery, Cond.instanceMethod yX6_isGallery, Cond.selects RX6 yX6_isGallery yX6_isGallery, Cond.initialized RX6, Cond.code yX6_isGallery cX6_isGallery 2 (some .boolean), Cond.fieldLink RX6 97 "GalleryBirds$Pit" "galleries" "I", Cond.methodLink RX6 210 yX6_bearing, Cond.static yX6_bearing, Cond.code yX6_bearing cX6_bearing 2 (some .int), Cond.methodLink RX6 214 yX3_areSo, Cond.instanceMethod yX3_areSo, Cond.selects RX3 yX3_areSo yX3_areSo, Cond.initialized RX3, Cond.code yX3_areSo cX3_areSo 7 (some .boolean), Cond.fieldLink RX3 9 "GalleryBirds$Readings" "count" "I", Cond.fieldLink RX3 15 "GalleryBirds$Readings" "galleries" "[I", Cond.fieldLink RX3 19 "GalleryBirds$Readings" "fouls" "[I", Cond.fieldLink RX3 22 "GalleryBirds$Readings" "dropped" "[I", Cond.methodLink RX3 25 yX2_bears, Cond.instanceMethod yX2_bears, Cond.selects RX2 yX2_bears yX2_bears]
def wsX6_strengths_r2 : List Cond := [Cond.initialized RX2, Cond.code yX2_bears cX2_bears 2 (some .int), Cond.fieldLink RX2 22 "GalleryBirds$Pit" "kinds" "[I", Cond.fieldLink RX2 25 "GalleryBirds$Pit" "strengths" "[I"]
def wsX6_strengths : List Cond := .code yX6_strengths cX6_strengths 4 (some .int) :: ((wsX6_strengths_r1 ++ wsX6_strengths_r2) ++ wsX60 ++ wsX20 ++ wsX30)
def wsX6_kinds_r1 : List Cond := [Cond.fieldLink RX6 34 "GalleryBirds" "readings" "LGalleryBirds$Readings;", Cond.fieldLink RX6 20 "GalleryBirds" "pit" "LGalleryBirds$Pit;", Cond.fieldLink RX6 109 "GalleryBirds$Pit" "strengths" "[I", Cond.methodLink RX6 100 yX6_isGallery, Cond.instanceMethod yX6_isGallery, Cond.selects RX6 yX6_isGallery yX6_isGallery, Cond.initialized RX6, Cond.code yX6_isGallery cX6_isGallery 2 (some .boolean), Cond.fieldLink RX6 97 "GalleryBirds$Pit" "galleries" "I", Cond.methodLink RX6 210 yX6_bearing, Cond.static yX6_bearing, Cond.code yX6_bearing cX6_bearing 2 (some .int), Cond.methodLink RX6 214 yX3_areSo, Cond.instanceMethod yX3_areSo, Cond.selects RX3 yX3_areSo yX3_areSo, Cond.initialized RX3, Cond.code yX3_areSo cX3_areSo 7 (some .boolean), Cond.fieldLink RX3 9 "GalleryBirds$Readings" "count" "I", Cond.fieldLink RX3 15 "GalleryBirds$Readings" "galleries" "[I", Cond.fieldLink RX3 19 "GalleryBirds$Readings" "fouls" "[I", Cond.fieldLink RX3 22 "GalleryBirds$Readings" "dropped" "[I", Cond.methodLink RX3 25 yX2_bears, Cond.instanceMethod yX2_bears, Cond.selects RX2 yX2_bears yX2_bears]
def wsX6_kinds_r2 : List Cond := [Cond.initialized RX2, Cond.code yX2_bears cX2_bears 2 (some .int), Cond.fieldLink RX2 22 "GalleryBirds$Pit" "kinds" "[I", Cond.fieldLink RX2 25 "GalleryBirds$Pit" "strengths" "[I"]
def wsX6_kinds : List Cond := .code yX6_kinds cX6_kinds 4 (some .int) :: ((wsX6_kinds_r1 ++ wsX6_kinds_r2) ++ wsX60 ++ wsX20 ++ wsX30)
def wsX6_commonDivisor : List Cond := .code yX6_commonDivisor cX6_commonDivisor 3 (some .int) :: ([])
def wsX6_odds_r1 : List Cond := [Cond.constantLong RX6 218 (-9223372036854775808), Cond.fieldLink RX6 20 "GalleryBirds" "pit" "LGalleryBirds$Pit;", Cond.fieldLink RX6 97 "GalleryBirds$Pit" "galleries" "I", Cond.fieldLink RX6 196 "GalleryBirds$Pit" "words" "I", Cond.methodLink RX6 100 yX6_isGallery, Cond.instanceMethod yX6_isGallery, Cond.selects RX6 yX6_isGallery yX6_isGallery, Cond.initialized RX6, Cond.code yX6_isGallery cX6_isGallery 2 (some .boolean), Cond.methodLink RX6 198 yX6_airBehind, Cond.instanceMethod yX6_airBehind, Cond.selects RX6 yX6_airBehind yX6_airBehind, Cond.code yX6_airBehind cX6_airBehind 4 (some (.object "GalleryBirds$Air")), Cond.fieldLink RX6 45 "GalleryBirds" "trials" "[LGalleryBirds$Air;", Cond.fieldLink RX6 27 "GalleryBirds" "air" "LGalleryBirds$Air;", Cond.fieldLink RX6 121 "GalleryBirds$Pit" "doors" "I", Cond.methodLink RX6 160 yX0_becomeLike, Cond.instanceMethod yX0_becomeLike, Cond.selects RX0 yX0_becomeLike yX0_becomeLike, Cond.initialized RX0, Cond.code yX0_becomeLike cX0_becomeLike 2 none, Cond.fieldLink RX0 9 "GalleryBirds$Air" "fouls" "[I", Cond.methodLink RX0 19 arraycopyName, Cond.native arraycopyName]
def wsX6_odds_r2 : List Cond := [Cond.static arraycopyName, Cond.initialized "java/lang/System", Cond.fieldLink RX0 15 "GalleryBirds$Air" "down" "I", Cond.methodLink RX6 133 yX2_breathe, Cond.instanceMethod yX2_breathe, Cond.selects RX2 yX2_breathe yX2_breathe, Cond.initialized RX2, Cond.code yX2_breathe cX2_breathe 5 (some .int), Cond.fieldLink RX2 35 "GalleryBirds$Air" "fouls" "[I", Cond.fieldLink RX2 18 "GalleryBirds$Pit" "bads" "[I", Cond.methodLink RX2 40 Lib.Math.min.name, Cond.static Lib.Math.min.name, Cond.initialized "java/lang/Math", Cond.code Lib.Math.min.name Lib.Math.min.code 2 (some .int), Cond.methodLink RX2 45 Lib.Math.max.name, Cond.static Lib.Math.max.name, Cond.code Lib.Math.max.name Lib.Math.max.code 2 (some .int), Cond.methodLink RX2 48 yX2_breatheHushed, Cond.instanceMethod yX2_breatheHushed, Cond.selects RX2 yX2_breatheHushed yX2_breatheHushed, Cond.code yX2_breatheHushed cX2_breatheHushed 3 (some .int), Cond.methodLink RX2 52 yX2_passAir, Cond.instanceMethod yX2_passAir, Cond.selects RX2 yX2_passAir yX2_passAir]
def wsX6_odds_r3 : List Cond := [Cond.code yX2_passAir cX2_passAir 7 (some .int), Cond.fieldLink RX2 9 "GalleryBirds$Pit" "galleries" "I", Cond.methodLink RX2 59 Lib.Math.abs.name, Cond.static Lib.Math.abs.name, Cond.code Lib.Math.abs.name Lib.Math.abs.code 1 (some .int), Cond.methodLink RX2 55 yX2_dropBirds, Cond.instanceMethod yX2_dropBirds, Cond.selects RX2 yX2_dropBirds yX2_dropBirds, Cond.code yX2_dropBirds cX2_dropBirds 4 (some .int), Cond.fieldLink RX2 70 "GalleryBirds$Air" "down" "I", Cond.methodLink RX2 63 yX0_isDown, Cond.instanceMethod yX0_isDown, Cond.selects RX0 yX0_isDown yX0_isDown, Cond.code yX0_isDown cX0_isDown 2 (some .boolean), Cond.methodLink RX2 67 yX2_bears, Cond.instanceMethod yX2_bears, Cond.selects RX2 yX2_bears yX2_bears, Cond.code yX2_bears cX2_bears 2 (some .int), Cond.fieldLink RX2 22 "GalleryBirds$Pit" "kinds" "[I", Cond.fieldLink RX2 25 "GalleryBirds$Pit" "strengths" "[I", Cond.static yX6_bearing, Cond.code yX6_bearing cX6_bearing 2 (some .int), Cond.methodLink RX6 145 yX0_isDown, Cond.methodLink RX6 220 yX6_commonDivisor]
def wsX6_odds_r4 : List Cond := [Cond.static yX6_commonDivisor, Cond.code yX6_commonDivisor cX6_commonDivisor 3 (some .int)]
def wsX6_odds : List Cond := .code yX6_odds cX6_odds 6 (some .long) :: ((wsX6_odds_r1 ++ (wsX6_odds_r2 ++ (wsX6_odds_r3 ++ wsX6_odds_r4))) ++ wsX60 ++ wsX20 ++ wsX00)
def wsX6_sheet : List Cond := .code yX6_sheet cX6_sheet 4 (some .int) :: ([.fieldLink RX6 67 "GalleryBirds" "lastFault" "I", .fieldLink RX6 13 "GalleryBirds" "sheets" "[LGalleryBirds$Sheet;", .methodLink RX6 71 yX6_isSheet, .static yX6_isSheet, .initialized RX6, .code yX6_isSheet cX6_isSheet 1 (some .boolean), .methodLink RX6 75 yX6_isLane, .static yX6_isLane, .code yX6_isLane cX6_isLane 1 (some .boolean), .methodLink RX6 82 yX6_faulted, .instanceMethod yX6_faulted, .selects RX6 yX6_faulted yX6_faulted, .code yX6_faulted cX6_faulted 2 (some .int), .methodLink RX6 223 yX5_begin, .instanceMethod yX5_begin, .selects RX5 yX5_begin yX5_begin, .initialized RX5, .code yX5_begin cX5_begin 4 none, .fieldLink RX5 9 "GalleryBirds$Sheet" "has" "Z", .fieldLink RX5 15 "GalleryBirds$Sheet" "lane" "I", .fieldLink RX5 23 "GalleryBirds$Sheet" "count" "I", .fieldLink RX5 19 "GalleryBirds$Sheet" "cells" "[I"] ++ wsX60 ++ wsX50)
def wsX6_lose : List Cond := .code yX6_lose cX6_lose 3 (some .int) :: ([.fieldLink RX6 13 "GalleryBirds" "sheets" "[LGalleryBirds$Sheet;", .fieldLink RX6 227 "GalleryBirds$Sheet" "has" "Z", .methodLink RX6 71 yX6_isSheet, .static yX6_isSheet, .initialized RX6, .code yX6_isSheet cX6_isSheet 1 (some .boolean)] ++ wsX60 ++ wsX50)
def wsX6_cutToLane : List Cond := .code yX6_cutToLane cX6_cutToLane 2 (some .int) :: ([])
def wsX6_put_r1 : List Cond := [Cond.fieldLink RX6 67 "GalleryBirds" "lastFault" "I", Cond.fieldLink RX6 13 "GalleryBirds" "sheets" "[LGalleryBirds$Sheet;", Cond.fieldLink RX6 231 "GalleryBirds$Sheet" "lane" "I", Cond.fieldLink RX6 86 "GalleryBirds$Sheet" "cells" "[I", Cond.methodLink RX6 71 yX6_isSheet, Cond.static yX6_isSheet, Cond.initialized RX6, Cond.code yX6_isSheet cX6_isSheet 1 (some .boolean), Cond.methodLink RX6 78 yX5_faultOfCells, Cond.instanceMethod yX5_faultOfCells, Cond.selects RX5 yX5_faultOfCells yX5_faultOfCells, Cond.initialized RX5, Cond.code yX5_faultOfCells cX5_faultOfCells 4 (some .int), Cond.fieldLink RX5 9 "GalleryBirds$Sheet" "has" "Z", Cond.fieldLink RX5 15 "GalleryBirds$Sheet" "lane" "I", Cond.methodLink RX5 26 yX5_hasCells, Cond.instanceMethod yX5_hasCells, Cond.selects RX5 yX5_hasCells yX5_hasCells, Cond.code yX5_hasCells cX5_hasCells 3 (some .boolean), Cond.fieldLink RX5 23 "GalleryBirds$Sheet" "count" "I", Cond.methodLink RX6 82 yX6_faulted, Cond.instanceMethod yX6_faulted, Cond.selects RX6 yX6_faulted yX6_faulted, Cond.code yX6_faulted cX6_faulted 2 (some .int)]
def wsX6_put_r2 : List Cond := [Cond.methodLink RX6 234 yX6_cutToLane, Cond.static yX6_cutToLane, Cond.code yX6_cutToLane cX6_cutToLane 2 (some .int)]
def wsX6_put : List Cond := .code yX6_put cX6_put 6 (some .int) :: ((wsX6_put_r1 ++ wsX6_put_r2) ++ wsX60 ++ wsX50)
def wsX6_cell_r1 : List Cond := [Cond.fieldLink RX6 67 "GalleryBirds" "lastFault" "I", Cond.constantLong RX6 218 (-9223372036854775808), Cond.fieldLink RX6 13 "GalleryBirds" "sheets" "[LGalleryBirds$Sheet;", Cond.fieldLink RX6 86 "GalleryBirds$Sheet" "cells" "[I", Cond.methodLink RX6 71 yX6_isSheet, Cond.static yX6_isSheet, Cond.initialized RX6, Cond.code yX6_isSheet cX6_isSheet 1 (some .boolean), Cond.methodLink RX6 75 yX6_isLane, Cond.static yX6_isLane, Cond.code yX6_isLane cX6_isLane 1 (some .boolean), Cond.methodLink RX6 78 yX5_faultOfCells, Cond.instanceMethod yX5_faultOfCells, Cond.selects RX5 yX5_faultOfCells yX5_faultOfCells, Cond.initialized RX5, Cond.code yX5_faultOfCells cX5_faultOfCells 4 (some .int), Cond.fieldLink RX5 9 "GalleryBirds$Sheet" "has" "Z", Cond.fieldLink RX5 15 "GalleryBirds$Sheet" "lane" "I", Cond.methodLink RX5 26 yX5_hasCells, Cond.instanceMethod yX5_hasCells, Cond.selects RX5 yX5_hasCells yX5_hasCells, Cond.code yX5_hasCells cX5_hasCells 3 (some .boolean), Cond.fieldLink RX5 23 "GalleryBirds$Sheet" "count" "I", Cond.methodLink RX6 82 yX6_faulted]
def wsX6_cell_r2 : List Cond := [Cond.instanceMethod yX6_faulted, Cond.selects RX6 yX6_faulted yX6_faulted, Cond.code yX6_faulted cX6_faulted 2 (some .int)]
def wsX6_cell : List Cond := .code yX6_cell cX6_cell 5 (some .long) :: ((wsX6_cell_r1 ++ wsX6_cell_r2) ++ wsX60 ++ wsX50)
def wsX6_copy : List Cond := .code yX6_copy cX6_copy 8 (some .int) :: ([.fieldLink RX6 67 "GalleryBirds" "lastFault" "I", .fieldLink RX6 13 "GalleryBirds" "sheets" "[LGalleryBirds$Sheet;", .fieldLink RX6 227 "GalleryBirds$Sheet" "has" "Z", .fieldLink RX6 231 "GalleryBirds$Sheet" "lane" "I", .fieldLink RX6 86 "GalleryBirds$Sheet" "cells" "[I", .methodLink RX6 241 arraycopyName, .native arraycopyName, .static arraycopyName, .initialized "java/lang/System", .methodLink RX6 71 yX6_isSheet, .static yX6_isSheet, .initialized RX6, .code yX6_isSheet cX6_isSheet 1 (some .boolean), .methodLink RX6 82 yX6_faulted, .instanceMethod yX6_faulted, .selects RX6 yX6_faulted yX6_faulted, .code yX6_faulted cX6_faulted 2 (some .int), .methodLink RX6 237 yX5_hasCells, .instanceMethod yX5_hasCells, .selects RX5 yX5_hasCells yX5_hasCells, .initialized RX5, .code yX5_hasCells cX5_hasCells 3 (some .boolean), .fieldLink RX5 23 "GalleryBirds$Sheet" "count" "I"] ++ wsX60 ++ wsX50)
def wsX6_leave : List Cond := .code yX6_leave cX6_leave 2 none :: ([.fieldLink RX6 64 "GalleryBirds" "trail" "I"] ++ wsX60)
def wsX6_greyBody : List Cond := .code yX6_greyBody cX6_greyBody 2 (some .int) :: ([.fieldLink RX6 20 "GalleryBirds" "pit" "LGalleryBirds$Pit;", .fieldLink RX6 109 "GalleryBirds$Pit" "strengths" "[I", .methodLink RX6 288 yX6_leave, .instanceMethod yX6_leave, .selects RX6 yX6_leave yX6_leave, .initialized RX6, .code yX6_leave cX6_leave 2 none, .fieldLink RX6 64 "GalleryBirds" "trail" "I"] ++ wsX60 ++ wsX20)
def wsX6_greenBody : List Cond := .code yX6_greenBody cX6_greenBody 2 (some .int) :: ([.methodLink RX6 288 yX6_leave, .instanceMethod yX6_leave, .selects RX6 yX6_leave yX6_leave, .initialized RX6, .code yX6_leave cX6_leave 2 none, .fieldLink RX6 64 "GalleryBirds" "trail" "I", .methodLink RX6 253 yX6_greyBody, .instanceMethod yX6_greyBody, .selects RX6 yX6_greyBody yX6_greyBody, .code yX6_greyBody cX6_greyBody 2 (some .int), .fieldLink RX6 20 "GalleryBirds" "pit" "LGalleryBirds$Pit;", .fieldLink RX6 109 "GalleryBirds$Pit" "strengths" "[I"] ++ wsX60 ++ wsX20)
def wsX6_brightBody : List Cond := .code yX6_brightBody cX6_brightBody 2 (some .int) :: ([.methodLink RX6 288 yX6_leave, .instanceMethod yX6_leave, .selects RX6 yX6_leave yX6_leave, .initialized RX6, .code yX6_leave cX6_leave 2 none, .fieldLink RX6 64 "GalleryBirds" "trail" "I", .methodLink RX6 250 yX6_greenBody, .instanceMethod yX6_greenBody, .selects RX6 yX6_greenBody yX6_greenBody, .code yX6_greenBody cX6_greenBody 2 (some .int), .methodLink RX6 253 yX6_greyBody, .instanceMethod yX6_greyBody, .selects RX6 yX6_greyBody yX6_greyBody, .code yX6_greyBody cX6_greyBody 2 (some .int), .fieldLink RX6 20 "GalleryBirds" "pit" "LGalleryBirds$Pit;", .fieldLink RX6 109 "GalleryBirds$Pit" "strengths" "[I"] ++ wsX60 ++ wsX20)
def wsX6_tell_r1 : List Cond := [Cond.fieldLink RX6 20 "GalleryBirds" "pit" "LGalleryBirds$Pit;", Cond.fieldLink RX6 103 "GalleryBirds$Pit" "kinds" "[I", Cond.methodLink RX6 100 yX6_isGallery, Cond.instanceMethod yX6_isGallery, Cond.selects RX6 yX6_isGallery yX6_isGallery, Cond.initialized RX6, Cond.code yX6_isGallery cX6_isGallery 2 (some .boolean), Cond.fieldLink RX6 97 "GalleryBirds$Pit" "galleries" "I", Cond.methodLink RX6 247 yX6_brightBody, Cond.instanceMethod yX6_brightBody, Cond.selects RX6 yX6_brightBody yX6_brightBody, Cond.code yX6_brightBody cX6_brightBody 2 (some .int), Cond.methodLink RX6 288 yX6_leave, Cond.instanceMethod yX6_leave, Cond.selects RX6 yX6_leave yX6_leave, Cond.code yX6_leave cX6_leave 2 none, Cond.fieldLink RX6 64 "GalleryBirds" "trail" "I", Cond.methodLink RX6 250 yX6_greenBody, Cond.instanceMethod yX6_greenBody, Cond.selects RX6 yX6_greenBody yX6_greenBody, Cond.code yX6_greenBody cX6_greenBody 2 (some .int), Cond.methodLink RX6 253 yX6_greyBody, Cond.instanceMethod yX6_greyBody, Cond.selects RX6 yX6_greyBody yX6_greyBody]
def wsX6_tell_r2 : List Cond := [Cond.code yX6_greyBody cX6_greyBody 2 (some .int), Cond.fieldLink RX6 109 "GalleryBirds$Pit" "strengths" "[I"]
def wsX6_tell : List Cond := .code yX6_tell cX6_tell 2 (some .int) :: ((wsX6_tell_r1 ++ wsX6_tell_r2) ++ wsX60 ++ wsX20)
def wsX6_brightSignature : List Cond := .code yX6_brightSignature cX6_brightSignature 1 (some .int) :: ([.methodLink RX6 288 yX6_leave, .instanceMethod yX6_leave, .selects RX6 yX6_leave yX6_leave, .initialized RX6, .code yX6_leave cX6_leave 2 none, .fieldLink RX6 64 "GalleryBirds" "trail" "I"] ++ wsX60)
def wsX6_lentSignature : List Cond := .code yX6_lentSignature cX6_lentSignature 2 (some .int) :: ([.methodLink RX6 288 yX6_leave, .instanceMethod yX6_leave, .selects RX6 yX6_leave yX6_leave, .initialized RX6, .code yX6_leave cX6_leave 2 none, .fieldLink RX6 64 "GalleryBirds" "trail" "I"] ++ wsX60)
def wsX6_sign : List Cond := .code yX6_sign cX6_sign 2 (some .int) :: ([.fieldLink RX6 20 "GalleryBirds" "pit" "LGalleryBirds$Pit;", .fieldLink RX6 103 "GalleryBirds$Pit" "kinds" "[I", .methodLink RX6 100 yX6_isGallery, .instanceMethod yX6_isGallery, .selects RX6 yX6_isGallery yX6_isGallery, .initialized RX6, .code yX6_isGallery cX6_isGallery 2 (some .boolean), .fieldLink RX6 97 "GalleryBirds$Pit" "galleries" "I", .methodLink RX6 256 yX6_brightSignature, .instanceMethod yX6_brightSignature, .selects RX6 yX6_brightSignature yX6_brightSignature, .code yX6_brightSignature cX6_brightSignature 1 (some .int), .methodLink RX6 288 yX6_leave, .instanceMethod yX6_leave, .selects RX6 yX6_leave yX6_leave, .code yX6_leave cX6_leave 2 none, .fieldLink RX6 64 "GalleryBirds" "trail" "I", .methodLink RX6 260 yX6_lentSignature, .instanceMethod yX6_lentSignature, .selects RX6 yX6_lentSignature yX6_lentSignature, .code yX6_lentSignature cX6_lentSignature 2 (some .int)] ++ wsX60 ++ wsX20)
def wsX6_as : List Cond := .code yX6_as cX6_as 3 (some .int) :: ([.fieldLink RX6 67 "GalleryBirds" "lastFault" "I", .fieldLink RX6 20 "GalleryBirds" "pit" "LGalleryBirds$Pit;", .fieldLink RX6 103 "GalleryBirds$Pit" "kinds" "[I", .methodLink RX6 100 yX6_isGallery, .instanceMethod yX6_isGallery, .selects RX6 yX6_isGallery yX6_isGallery, .initialized RX6, .code yX6_isGallery cX6_isGallery 2 (some .boolean), .fieldLink RX6 97 "GalleryBirds$Pit" "galleries" "I", .methodLink RX6 82 yX6_faulted, .instanceMethod yX6_faulted, .selects RX6 yX6_faulted yX6_faulted, .code yX6_faulted cX6_faulted 2 (some .int)] ++ wsX60 ++ wsX20)
def wsX6_trace : List Cond := .code yX6_trace cX6_trace 1 (some .int) :: ([.fieldLink RX6 64 "GalleryBirds" "trail" "I"] ++ wsX60)
def wsX6_fault : List Cond := .code yX6_fault cX6_fault 1 (some .int) :: ([.fieldLink RX6 67 "GalleryBirds" "lastFault" "I"] ++ wsX60)
def wsX6_many : List Cond := .code yX6_many cX6_many 2 (some .int) :: ([.fieldLink RX6 20 "GalleryBirds" "pit" "LGalleryBirds$Pit;", .fieldLink RX6 97 "GalleryBirds$Pit" "galleries" "I", .fieldLink RX6 196 "GalleryBirds$Pit" "words" "I", .fieldLink RX6 60 "GalleryBirds" "breaths" "I", .fieldLink RX6 27 "GalleryBirds" "air" "LGalleryBirds$Air;", .fieldLink RX6 115 "GalleryBirds$Air" "down" "I", .fieldLink RX6 34 "GalleryBirds" "readings" "LGalleryBirds$Readings;", .fieldLink RX6 206 "GalleryBirds$Readings" "count" "I", .methodLink RX6 148 yJ6_bitCount_0f7a4, .static yJ6_bitCount_0f7a4, .initialized RJ6, .code yJ6_bitCount_0f7a4 cJ6_bitCount_0f7a4 1 (some .int), .constant RJ6 265 (1431655765), .constant RJ6 266 (858993459), .constant RJ6 267 (252645135)] ++ wsX60 ++ wsX20 ++ wsX00 ++ wsX30)
def wsX7_init : List Cond := .code yX7_init cX7_init 1 none :: ([.methodLink RX7 1 objectInit, .instanceMethod objectInit, .code objectInit ⟨#[0xb1]⟩ 1 none, .arrayClass .int, .fieldLink RX7 9 "GalleryBirdsModel" "sorts" "[I", .fieldLink RX7 13 "GalleryBirdsModel" "sheetLong" "[I", .fieldLink RX7 16 "GalleryBirdsModel" "cells" "[I", .fieldLink RX7 19 "GalleryBirdsModel" "badOf" "[I", .fieldLink RX7 22 "GalleryBirdsModel" "kind" "[I", .fieldLink RX7 25 "GalleryBirdsModel" "foulNow" "[I", .fieldLink RX7 28 "GalleryBirdsModel" "strength" "[I", .fieldLink RX7 31 "GalleryBirdsModel" "readBad" "[I", .fieldLink RX7 34 "GalleryBirdsModel" "read" "[I", .fieldLink RX7 37 "GalleryBirdsModel" "keptFoul" "[I", .fieldLink RX7 40 "GalleryBirdsModel" "row" "[I", .fieldLink RX7 43 "GalleryBirdsModel" "perched" "[I", .fieldLink RX7 46 "GalleryBirdsModel" "readWhere" "[I", .fieldLink RX7 49 "GalleryBirdsModel" "readFoul" "[I", .fieldLink RX7 52 "GalleryBirdsModel" "readDropped" "[I"] ++ wsX70)
def wsX7_fails : List Cond := .code yX7_fails cX7_fails 2 (some .int) :: ([.fieldLink RX7 55 "GalleryBirdsModel" "fault" "I"] ++ wsX70)
def wsX7_lost : List Cond := .code yX7_lost cX7_lost 2 (some .long) :: ([.fieldLink RX7 55 "GalleryBirdsModel" "fault" "I", .constantLong RX7 59 (-9223372036854775808)] ++ wsX70)
def wsX7_within : List Cond := .code yX7_within cX7_within 3 (some .boolean) :: ([])
def wsX7_isSheet : List Cond := .code yX7_isSheet cX7_isSheet 1 (some .boolean) :: ([.methodLink RX7 61 yX7_within, .static yX7_within, .initialized RX7, .code yX7_within cX7_within 3 (some .boolean)])
def wsX7_isSort : List Cond := .code yX7_isSort cX7_isSort 1 (some .boolean) :: ([.methodLink RX7 61 yX7_within, .static yX7_within, .initialized RX7, .code yX7_within cX7_within 3 (some .boolean)])
def wsX7_against : List Cond := .code yX7_against cX7_against 5 (some .int) :: ([.fieldLink RX7 9 "GalleryBirdsModel" "sorts" "[I", .fieldLink RX7 13 "GalleryBirdsModel" "sheetLong" "[I"] ++ wsX70)
def wsX7_isGallery : List Cond := .code yX7_isGallery cX7_isGallery 2 (some .boolean) :: ([.fieldLink RX7 65 "GalleryBirdsModel" "galleries" "I"] ++ wsX70)
def wsX7_isWord : List Cond := .code yX7_isWord cX7_isWord 2 (some .boolean) :: ([.fieldLink RX7 68 "GalleryBirdsModel" "words" "I"] ++ wsX70)
def wsX7_isOf : List Cond := .code yX7_isOf cX7_isOf 2 (some .boolean) :: ([])
def wsX7_digit : List Cond := .code yX7_digit cX7_digit 4 (some .int) :: ([.fieldLink RX7 71 "GalleryBirdsModel" "at" "I", .fieldLink RX7 16 "GalleryBirdsModel" "cells" "[I", .methodLink RX7 61 yX7_within, .static yX7_within, .initialized RX7, .code yX7_within cX7_within 3 (some .boolean)] ++ wsX70)
def wsX7_isSign : List Cond := .code yX7_isSign cX7_isSign 3 (some .boolean) :: ([.fieldLink RX7 71 "GalleryBirdsModel" "at" "I", .fieldLink RX7 16 "GalleryBirdsModel" "cells" "[I"] ++ wsX70)
def wsX7_readTheWords : List Cond := .code yX7_readTheWords cX7_readTheWords 3 (some .boolean) :: ([.fieldLink RX7 95 "GalleryBirdsModel" "readWords" "I", .fieldLink RX7 31 "GalleryBirdsModel" "readBad" "[I", .methodLink RX7 123 yX7_digit, .instanceMethod yX7_digit, .selects RX7 yX7_digit yX7_digit, .initialized RX7, .code yX7_digit cX7_digit 4 (some .int), .fieldLink RX7 71 "GalleryBirdsModel" "at" "I", .fieldLink RX7 16 "GalleryBirdsModel" "cells" "[I", .methodLink RX7 61 yX7_within, .static yX7_within, .code yX7_within cX7_within 3 (some .boolean)] ++ wsX70)
def wsX7_readGallery : List Cond := .code yX7_readGallery cX7_readGallery 4 (some .boolean) :: ([.fieldLink RX7 71 "GalleryBirdsModel" "at" "I", .fieldLink RX7 16 "GalleryBirdsModel" "cells" "[I", .fieldLink RX7 98 "GalleryBirdsModel" "readGalleries" "I", .fieldLink RX7 34 "GalleryBirdsModel" "read" "[I", .methodLink RX7 123 yX7_digit, .instanceMethod yX7_digit, .selects RX7 yX7_digit yX7_digit, .initialized RX7, .code yX7_digit cX7_digit 4 (some .int), .methodLink RX7 61 yX7_within, .static yX7_within, .code yX7_within cX7_within 3 (some .boolean)] ++ wsX70)
def wsX7_readMine_r1 : List Cond := [Cond.fieldLink RX7 98 "GalleryBirdsModel" "readGalleries" "I", Cond.fieldLink RX7 71 "GalleryBirdsModel" "at" "I", Cond.methodLink RX7 113 yX7_isSign, Cond.instanceMethod yX7_isSign, Cond.selects RX7 yX7_isSign yX7_isSign, Cond.initialized RX7, Cond.code yX7_isSign cX7_isSign 3 (some .boolean), Cond.fieldLink RX7 16 "GalleryBirdsModel" "cells" "[I", Cond.methodLink RX7 117 yX7_readTheWords, Cond.instanceMethod yX7_readTheWords, Cond.selects RX7 yX7_readTheWords yX7_readTheWords, Cond.code yX7_readTheWords cX7_readTheWords 3 (some .boolean), Cond.fieldLink RX7 95 "GalleryBirdsModel" "readWords" "I", Cond.fieldLink RX7 31 "GalleryBirdsModel" "readBad" "[I", Cond.methodLink RX7 123 yX7_digit, Cond.instanceMethod yX7_digit, Cond.selects RX7 yX7_digit yX7_digit, Cond.code yX7_digit cX7_digit 4 (some .int), Cond.methodLink RX7 61 yX7_within, Cond.static yX7_within, Cond.code yX7_within cX7_within 3 (some .boolean), Cond.methodLink RX7 120 yX7_readGallery, Cond.instanceMethod yX7_readGallery, Cond.selects RX7 yX7_readGallery yX7_readGallery]
def wsX7_readMine_r2 : List Cond := [Cond.code yX7_readGallery cX7_readGallery 4 (some .boolean), Cond.fieldLink RX7 34 "GalleryBirdsModel" "read" "[I"]
def wsX7_readMine : List Cond := .code yX7_readMine cX7_readMine 2 (some .boolean) :: ((wsX7_readMine_r1 ++ wsX7_readMine_r2) ++ wsX70)
def wsX7_takeMine : List Cond := .code yX7_takeMine cX7_takeMine 2 none :: ([.fieldLink RX7 95 "GalleryBirdsModel" "readWords" "I", .fieldLink RX7 68 "GalleryBirdsModel" "words" "I", .fieldLink RX7 19 "GalleryBirdsModel" "badOf" "[I", .fieldLink RX7 31 "GalleryBirdsModel" "readBad" "[I", .fieldLink RX7 98 "GalleryBirdsModel" "readGalleries" "I", .fieldLink RX7 65 "GalleryBirdsModel" "galleries" "I", .fieldLink RX7 101 "GalleryBirdsModel" "doors" "I", .fieldLink RX7 22 "GalleryBirdsModel" "kind" "[I", .fieldLink RX7 34 "GalleryBirdsModel" "read" "[I", .fieldLink RX7 25 "GalleryBirdsModel" "foulNow" "[I", .fieldLink RX7 28 "GalleryBirdsModel" "strength" "[I", .fieldLink RX7 104 "GalleryBirdsModel" "breaths" "I", .fieldLink RX7 107 "GalleryBirdsModel" "down" "I", .fieldLink RX7 110 "GalleryBirdsModel" "readings" "I"] ++ wsX70)
def wsX7_mine_r1 : List Cond := [Cond.fieldLink RX7 55 "GalleryBirdsModel" "fault" "I", Cond.fieldLink RX7 71 "GalleryBirdsModel" "at" "I", Cond.fieldLink RX7 65 "GalleryBirdsModel" "galleries" "I", Cond.methodLink RX7 74 yX7_isSheet, Cond.static yX7_isSheet, Cond.initialized RX7, Cond.code yX7_isSheet cX7_isSheet 1 (some .boolean), Cond.methodLink RX7 61 yX7_within, Cond.static yX7_within, Cond.code yX7_within cX7_within 3 (some .boolean), Cond.methodLink RX7 78 yX7_isSort, Cond.static yX7_isSort, Cond.code yX7_isSort cX7_isSort 1 (some .boolean), Cond.methodLink RX7 81 yX7_against, Cond.instanceMethod yX7_against, Cond.selects RX7 yX7_against yX7_against, Cond.code yX7_against cX7_against 5 (some .int), Cond.fieldLink RX7 9 "GalleryBirdsModel" "sorts" "[I", Cond.fieldLink RX7 13 "GalleryBirdsModel" "sheetLong" "[I", Cond.methodLink RX7 85 yX7_fails, Cond.instanceMethod yX7_fails, Cond.selects RX7 yX7_fails yX7_fails, Cond.code yX7_fails cX7_fails 2 (some .int), Cond.methodLink RX7 89 yX7_readMine]
def wsX7_mine_r2 : List Cond := [Cond.instanceMethod yX7_readMine, Cond.selects RX7 yX7_readMine yX7_readMine, Cond.code yX7_readMine cX7_readMine 2 (some .boolean), Cond.fieldLink RX7 98 "GalleryBirdsModel" "readGalleries" "I", Cond.methodLink RX7 113 yX7_isSign, Cond.instanceMethod yX7_isSign, Cond.selects RX7 yX7_isSign yX7_isSign, Cond.code yX7_isSign cX7_isSign 3 (some .boolean), Cond.fieldLink RX7 16 "GalleryBirdsModel" "cells" "[I", Cond.methodLink RX7 117 yX7_readTheWords, Cond.instanceMethod yX7_readTheWords, Cond.selects RX7 yX7_readTheWords yX7_readTheWords, Cond.code yX7_readTheWords cX7_readTheWords 3 (some .boolean), Cond.fieldLink RX7 95 "GalleryBirdsModel" "readWords" "I", Cond.fieldLink RX7 31 "GalleryBirdsModel" "readBad" "[I", Cond.methodLink RX7 123 yX7_digit, Cond.instanceMethod yX7_digit, Cond.selects RX7 yX7_digit yX7_digit, Cond.code yX7_digit cX7_digit 4 (some .int), Cond.methodLink RX7 120 yX7_readGallery, Cond.instanceMethod yX7_readGallery, Cond.selects RX7 yX7_readGallery yX7_readGallery, Cond.code yX7_readGallery cX7_readGallery 4 (some .boolean), Cond.fieldLink RX7 34 "GalleryBirdsModel" "read" "[I"]
def wsX7_mine_r3 : List Cond := [Cond.methodLink RX7 92 yX7_takeMine, Cond.instanceMethod yX7_takeMine, Cond.selects RX7 yX7_takeMine yX7_takeMine, Cond.code yX7_takeMine cX7_takeMine 2 none, Cond.fieldLink RX7 68 "GalleryBirdsModel" "words" "I", Cond.fieldLink RX7 19 "GalleryBirdsModel" "badOf" "[I", Cond.fieldLink RX7 101 "GalleryBirdsModel" "doors" "I", Cond.fieldLink RX7 22 "GalleryBirdsModel" "kind" "[I", Cond.fieldLink RX7 25 "GalleryBirdsModel" "foulNow" "[I", Cond.fieldLink RX7 28 "GalleryBirdsModel" "strength" "[I", Cond.fieldLink RX7 104 "GalleryBirdsModel" "breaths" "I", Cond.fieldLink RX7 107 "GalleryBirdsModel" "down" "I", Cond.fieldLink RX7 110 "GalleryBirdsModel" "readings" "I"]
def wsX7_mine : List Cond := .code yX7_mine cX7_mine 7 (some .int) :: ((wsX7_mine_r1 ++ (wsX7_mine_r2 ++ wsX7_mine_r3)) ++ wsX70)
def wsX7_bearsBy : List Cond := .code yX7_bearsBy cX7_bearsBy 2 (some .int) :: ([])
def wsX7_bearsOf : List Cond := .code yX7_bearsOf cX7_bearsOf 2 (some .int) :: ([.fieldLink RX7 22 "GalleryBirdsModel" "kind" "[I", .fieldLink RX7 28 "GalleryBirdsModel" "strength" "[I", .methodLink RX7 127 yX7_bearsBy, .static yX7_bearsBy, .initialized RX7, .code yX7_bearsBy cX7_bearsBy 2 (some .int)] ++ wsX70)
def wsX7_isDoor : List Cond := .code yX7_isDoor cX7_isDoor 2 (some .boolean) :: ([.fieldLink RX7 65 "GalleryBirdsModel" "galleries" "I"] ++ wsX70)
def wsX7_ofGallery : List Cond := .code yX7_ofGallery cX7_ofGallery 3 (some .int) :: ([.fieldLink RX7 22 "GalleryBirdsModel" "kind" "[I", .fieldLink RX7 25 "GalleryBirdsModel" "foulNow" "[I", .fieldLink RX7 28 "GalleryBirdsModel" "strength" "[I", .fieldLink RX7 107 "GalleryBirdsModel" "down" "I", .fieldLink RX7 101 "GalleryBirdsModel" "doors" "I", .methodLink RX7 131 yX7_isGallery, .instanceMethod yX7_isGallery, .selects RX7 yX7_isGallery yX7_isGallery, .initialized RX7, .code yX7_isGallery cX7_isGallery 2 (some .boolean), .fieldLink RX7 65 "GalleryBirdsModel" "galleries" "I", .methodLink RX7 134 yX7_bearsOf, .instanceMethod yX7_bearsOf, .selects RX7 yX7_bearsOf yX7_bearsOf, .code yX7_bearsOf cX7_bearsOf 2 (some .int), .methodLink RX7 127 yX7_bearsBy, .static yX7_bearsBy, .code yX7_bearsBy cX7_bearsBy 2 (some .int), .methodLink RX7 137 yX7_isDoor, .instanceMethod yX7_isDoor, .selects RX7 yX7_isDoor yX7_isDoor, .code yX7_isDoor cX7_isDoor 2 (some .boolean)] ++ wsX70)
def wsX7_bad : List Cond := .code yX7_bad cX7_bad 2 (some .int) :: ([.fieldLink RX7 19 "GalleryBirdsModel" "badOf" "[I", .methodLink RX7 140 yX7_isWord, .instanceMethod yX7_isWord, .selects RX7 yX7_isWord yX7_isWord, .initialized RX7, .code yX7_isWord cX7_isWord 2 (some .boolean), .fieldLink RX7 68 "GalleryBirdsModel" "words" "I"] ++ wsX70)
def wsX7_foul : List Cond := .code yX7_foul cX7_foul 4 (some .int) :: ([.fieldLink RX7 25 "GalleryBirdsModel" "foulNow" "[I", .methodLink RX7 131 yX7_isGallery, .instanceMethod yX7_isGallery, .selects RX7 yX7_isGallery yX7_isGallery, .initialized RX7, .code yX7_isGallery cX7_isGallery 2 (some .boolean), .fieldLink RX7 65 "GalleryBirdsModel" "galleries" "I", .methodLink RX7 61 yX7_within, .static yX7_within, .code yX7_within cX7_within 3 (some .boolean)] ++ wsX70)
def wsX7_breed : List Cond := .code yX7_breed cX7_breed 4 (some .int) :: ([.fieldLink RX7 28 "GalleryBirdsModel" "strength" "[I", .methodLink RX7 131 yX7_isGallery, .instanceMethod yX7_isGallery, .selects RX7 yX7_isGallery yX7_isGallery, .initialized RX7, .code yX7_isGallery cX7_isGallery 2 (some .boolean), .fieldLink RX7 65 "GalleryBirdsModel" "galleries" "I", .methodLink RX7 61 yX7_within, .static yX7_within, .code yX7_within cX7_within 3 (some .boolean)] ++ wsX70)
def wsX7_door : List Cond := .code yX7_door cX7_door 4 (some .int) :: ([.fieldLink RX7 101 "GalleryBirdsModel" "doors" "I", .methodLink RX7 137 yX7_isDoor, .instanceMethod yX7_isDoor, .selects RX7 yX7_isDoor yX7_isDoor, .initialized RX7, .code yX7_isDoor cX7_isDoor 2 (some .boolean), .fieldLink RX7 65 "GalleryBirdsModel" "galleries" "I", .methodLink RX7 61 yX7_within, .static yX7_within, .code yX7_within cX7_within 3 (some .boolean)] ++ wsX70)
def wsX7_pass : List Cond := .code yX7_pass cX7_pass 5 (some .int) :: ([.fieldLink RX7 65 "GalleryBirdsModel" "galleries" "I", .fieldLink RX7 25 "GalleryBirdsModel" "foulNow" "[I", .fieldLink RX7 101 "GalleryBirdsModel" "doors" "I", .methodLink RX7 143 yX7_isOf, .static yX7_isOf, .initialized RX7, .code yX7_isOf cX7_isOf 2 (some .boolean)] ++ wsX70)
def wsX7_drop : List Cond := .code yX7_drop cX7_drop 3 (some .int) :: ([.fieldLink RX7 65 "GalleryBirdsModel" "galleries" "I", .fieldLink RX7 107 "GalleryBirdsModel" "down" "I", .fieldLink RX7 25 "GalleryBirdsModel" "foulNow" "[I", .methodLink RX7 143 yX7_isOf, .static yX7_isOf, .initialized RX7, .code yX7_isOf cX7_isOf 2 (some .boolean), .methodLink RX7 134 yX7_bearsOf, .instanceMethod yX7_bearsOf, .selects RX7 yX7_bearsOf yX7_bearsOf, .code yX7_bearsOf cX7_bearsOf 2 (some .int), .fieldLink RX7 22 "GalleryBirdsModel" "kind" "[I", .fieldLink RX7 28 "GalleryBirdsModel" "strength" "[I", .methodLink RX7 127 yX7_bearsBy, .static yX7_bearsBy, .code yX7_bearsBy cX7_bearsBy 2 (some .int)] ++ wsX70)
def wsX7_sayIn : List Cond := .code yX7_sayIn cX7_sayIn 4 none :: ([.fieldLink RX7 25 "GalleryBirdsModel" "foulNow" "[I", .fieldLink RX7 19 "GalleryBirdsModel" "badOf" "[I"] ++ wsX70)
def wsX7_breathe_r1 : List Cond := [Cond.methodLink RX7 146 yX7_sayIn, Cond.instanceMethod yX7_sayIn, Cond.selects RX7 yX7_sayIn yX7_sayIn, Cond.initialized RX7, Cond.code yX7_sayIn cX7_sayIn 4 none, Cond.fieldLink RX7 25 "GalleryBirdsModel" "foulNow" "[I", Cond.fieldLink RX7 19 "GalleryBirdsModel" "badOf" "[I", Cond.methodLink RX7 150 yX7_pass, Cond.instanceMethod yX7_pass, Cond.selects RX7 yX7_pass yX7_pass, Cond.code yX7_pass cX7_pass 5 (some .int), Cond.fieldLink RX7 65 "GalleryBirdsModel" "galleries" "I", Cond.fieldLink RX7 101 "GalleryBirdsModel" "doors" "I", Cond.methodLink RX7 143 yX7_isOf, Cond.static yX7_isOf, Cond.code yX7_isOf cX7_isOf 2 (some .boolean), Cond.methodLink RX7 154 yX7_drop, Cond.instanceMethod yX7_drop, Cond.selects RX7 yX7_drop yX7_drop, Cond.code yX7_drop cX7_drop 3 (some .int), Cond.fieldLink RX7 107 "GalleryBirdsModel" "down" "I", Cond.methodLink RX7 134 yX7_bearsOf, Cond.instanceMethod yX7_bearsOf, Cond.selects RX7 yX7_bearsOf yX7_bearsOf]
def wsX7_breathe_r2 : List Cond := [Cond.code yX7_bearsOf cX7_bearsOf 2 (some .int), Cond.fieldLink RX7 22 "GalleryBirdsModel" "kind" "[I", Cond.fieldLink RX7 28 "GalleryBirdsModel" "strength" "[I", Cond.methodLink RX7 127 yX7_bearsBy, Cond.static yX7_bearsBy, Cond.code yX7_bearsBy cX7_bearsBy 2 (some .int)]
def wsX7_breathe : List Cond := .code yX7_breathe cX7_breathe 3 (some .int) :: ((wsX7_breathe_r1 ++ wsX7_breathe_r2) ++ wsX70)
def wsX7_say_r1 : List Cond := [Cond.fieldLink RX7 104 "GalleryBirdsModel" "breaths" "I", Cond.methodLink RX7 131 yX7_isGallery, Cond.instanceMethod yX7_isGallery, Cond.selects RX7 yX7_isGallery yX7_isGallery, Cond.initialized RX7, Cond.code yX7_isGallery cX7_isGallery 2 (some .boolean), Cond.fieldLink RX7 65 "GalleryBirdsModel" "galleries" "I", Cond.methodLink RX7 140 yX7_isWord, Cond.instanceMethod yX7_isWord, Cond.selects RX7 yX7_isWord yX7_isWord, Cond.code yX7_isWord cX7_isWord 2 (some .boolean), Cond.fieldLink RX7 68 "GalleryBirdsModel" "words" "I", Cond.methodLink RX7 157 yX7_breathe, Cond.instanceMethod yX7_breathe, Cond.selects RX7 yX7_breathe yX7_breathe, Cond.code yX7_breathe cX7_breathe 3 (some .int), Cond.methodLink RX7 146 yX7_sayIn, Cond.instanceMethod yX7_sayIn, Cond.selects RX7 yX7_sayIn yX7_sayIn, Cond.code yX7_sayIn cX7_sayIn 4 none, Cond.fieldLink RX7 25 "GalleryBirdsModel" "foulNow" "[I", Cond.fieldLink RX7 19 "GalleryBirdsModel" "badOf" "[I", Cond.methodLink RX7 150 yX7_pass, Cond.instanceMethod yX7_pass]
def wsX7_say_r2 : List Cond := [Cond.selects RX7 yX7_pass yX7_pass, Cond.code yX7_pass cX7_pass 5 (some .int), Cond.fieldLink RX7 101 "GalleryBirdsModel" "doors" "I", Cond.methodLink RX7 143 yX7_isOf, Cond.static yX7_isOf, Cond.code yX7_isOf cX7_isOf 2 (some .boolean), Cond.methodLink RX7 154 yX7_drop, Cond.instanceMethod yX7_drop, Cond.selects RX7 yX7_drop yX7_drop, Cond.code yX7_drop cX7_drop 3 (some .int), Cond.fieldLink RX7 107 "GalleryBirdsModel" "down" "I", Cond.methodLink RX7 134 yX7_bearsOf, Cond.instanceMethod yX7_bearsOf, Cond.selects RX7 yX7_bearsOf yX7_bearsOf, Cond.code yX7_bearsOf cX7_bearsOf 2 (some .int), Cond.fieldLink RX7 22 "GalleryBirdsModel" "kind" "[I", Cond.fieldLink RX7 28 "GalleryBirdsModel" "strength" "[I", Cond.methodLink RX7 127 yX7_bearsBy, Cond.static yX7_bearsBy, Cond.code yX7_bearsBy cX7_bearsBy 2 (some .int)]
def wsX7_say : List Cond := .code yX7_say cX7_say 3 (some .int) :: ((wsX7_say_r1 ++ wsX7_say_r2) ++ wsX70)
def wsX7_hush_r1 : List Cond := [Cond.fieldLink RX7 65 "GalleryBirdsModel" "galleries" "I", Cond.fieldLink RX7 104 "GalleryBirdsModel" "breaths" "I", Cond.methodLink RX7 61 yX7_within, Cond.static yX7_within, Cond.initialized RX7, Cond.code yX7_within cX7_within 3 (some .boolean), Cond.methodLink RX7 150 yX7_pass, Cond.instanceMethod yX7_pass, Cond.selects RX7 yX7_pass yX7_pass, Cond.code yX7_pass cX7_pass 5 (some .int), Cond.fieldLink RX7 25 "GalleryBirdsModel" "foulNow" "[I", Cond.fieldLink RX7 101 "GalleryBirdsModel" "doors" "I", Cond.methodLink RX7 143 yX7_isOf, Cond.static yX7_isOf, Cond.code yX7_isOf cX7_isOf 2 (some .boolean), Cond.methodLink RX7 154 yX7_drop, Cond.instanceMethod yX7_drop, Cond.selects RX7 yX7_drop yX7_drop, Cond.code yX7_drop cX7_drop 3 (some .int), Cond.fieldLink RX7 107 "GalleryBirdsModel" "down" "I", Cond.methodLink RX7 134 yX7_bearsOf, Cond.instanceMethod yX7_bearsOf, Cond.selects RX7 yX7_bearsOf yX7_bearsOf, Cond.code yX7_bearsOf cX7_bearsOf 2 (some .int)]
def wsX7_hush_r2 : List Cond := [Cond.fieldLink RX7 22 "GalleryBirdsModel" "kind" "[I", Cond.fieldLink RX7 28 "GalleryBirdsModel" "strength" "[I", Cond.methodLink RX7 127 yX7_bearsBy, Cond.static yX7_bearsBy, Cond.code yX7_bearsBy cX7_bearsBy 2 (some .int)]
def wsX7_hush : List Cond := .code yX7_hush cX7_hush 4 (some .int) :: ((wsX7_hush_r1 ++ wsX7_hush_r2) ++ wsX70)
def wsX7_size : List Cond := .code yX7_size cX7_size 3 (some .int) :: ([])
def wsX7_blow : List Cond := .code yX7_blow cX7_blow 2 (some .int) :: ([.fieldLink RX7 107 "GalleryBirdsModel" "down" "I", .fieldLink RX7 25 "GalleryBirdsModel" "foulNow" "[I", .methodLink RX7 131 yX7_isGallery, .instanceMethod yX7_isGallery, .selects RX7 yX7_isGallery yX7_isGallery, .initialized RX7, .code yX7_isGallery cX7_isGallery 2 (some .boolean), .fieldLink RX7 65 "GalleryBirdsModel" "galleries" "I", .methodLink RX7 143 yX7_isOf, .static yX7_isOf, .code yX7_isOf cX7_isOf 2 (some .boolean), .methodLink RX7 134 yX7_bearsOf, .instanceMethod yX7_bearsOf, .selects RX7 yX7_bearsOf yX7_bearsOf, .code yX7_bearsOf cX7_bearsOf 2 (some .int), .fieldLink RX7 22 "GalleryBirdsModel" "kind" "[I", .fieldLink RX7 28 "GalleryBirdsModel" "strength" "[I", .methodLink RX7 127 yX7_bearsBy, .static yX7_bearsBy, .code yX7_bearsBy cX7_bearsBy 2 (some .int), .methodLink RX7 160 yX7_size, .static yX7_size, .code yX7_size cX7_size 3 (some .int)] ++ wsX70)
def wsX7_keep : List Cond := .code yX7_keep cX7_keep 2 none :: ([.fieldLink RX7 107 "GalleryBirdsModel" "down" "I", .fieldLink RX7 163 "GalleryBirdsModel" "keptDown" "I", .fieldLink RX7 65 "GalleryBirdsModel" "galleries" "I", .fieldLink RX7 37 "GalleryBirdsModel" "keptFoul" "[I", .fieldLink RX7 25 "GalleryBirdsModel" "foulNow" "[I"] ++ wsX70)
def wsX7_putBack : List Cond := .code yX7_putBack cX7_putBack 2 none :: ([.fieldLink RX7 163 "GalleryBirdsModel" "keptDown" "I", .fieldLink RX7 107 "GalleryBirdsModel" "down" "I", .fieldLink RX7 65 "GalleryBirdsModel" "galleries" "I", .fieldLink RX7 25 "GalleryBirdsModel" "foulNow" "[I", .fieldLink RX7 37 "GalleryBirdsModel" "keptFoul" "[I"] ++ wsX70)
def wsX7_refusesPairs : List Cond := .code yX7_refusesPairs cX7_refusesPairs 4 (some .int) :: ([.fieldLink RX7 16 "GalleryBirdsModel" "cells" "[I", .methodLink RX7 131 yX7_isGallery, .instanceMethod yX7_isGallery, .selects RX7 yX7_isGallery yX7_isGallery, .initialized RX7, .code yX7_isGallery cX7_isGallery 2 (some .boolean), .fieldLink RX7 65 "GalleryBirdsModel" "galleries" "I", .methodLink RX7 140 yX7_isWord, .instanceMethod yX7_isWord, .selects RX7 yX7_isWord yX7_isWord, .code yX7_isWord cX7_isWord 2 (some .boolean), .fieldLink RX7 68 "GalleryBirdsModel" "words" "I"] ++ wsX70)
def wsX7_goShift_r1 : List Cond := [Cond.fieldLink RX7 166 "GalleryBirdsModel" "dropped" "I", Cond.fieldLink RX7 169 "GalleryBirdsModel" "firstWrong" "I", Cond.fieldLink RX7 16 "GalleryBirdsModel" "cells" "[I", Cond.methodLink RX7 157 yX7_breathe, Cond.instanceMethod yX7_breathe, Cond.selects RX7 yX7_breathe yX7_breathe, Cond.initialized RX7, Cond.code yX7_breathe cX7_breathe 3 (some .int), Cond.methodLink RX7 146 yX7_sayIn, Cond.instanceMethod yX7_sayIn, Cond.selects RX7 yX7_sayIn yX7_sayIn, Cond.code yX7_sayIn cX7_sayIn 4 none, Cond.fieldLink RX7 25 "GalleryBirdsModel" "foulNow" "[I", Cond.fieldLink RX7 19 "GalleryBirdsModel" "badOf" "[I", Cond.methodLink RX7 150 yX7_pass, Cond.instanceMethod yX7_pass, Cond.selects RX7 yX7_pass yX7_pass, Cond.code yX7_pass cX7_pass 5 (some .int), Cond.fieldLink RX7 65 "GalleryBirdsModel" "galleries" "I", Cond.fieldLink RX7 101 "GalleryBirdsModel" "doors" "I", Cond.methodLink RX7 143 yX7_isOf, Cond.static yX7_isOf, Cond.code yX7_isOf cX7_isOf 2 (some .boolean), Cond.methodLink RX7 154 yX7_drop]
def wsX7_goShift_r2 : List Cond := [Cond.instanceMethod yX7_drop, Cond.selects RX7 yX7_drop yX7_drop, Cond.code yX7_drop cX7_drop 3 (some .int), Cond.fieldLink RX7 107 "GalleryBirdsModel" "down" "I", Cond.methodLink RX7 134 yX7_bearsOf, Cond.instanceMethod yX7_bearsOf, Cond.selects RX7 yX7_bearsOf yX7_bearsOf, Cond.code yX7_bearsOf cX7_bearsOf 2 (some .int), Cond.fieldLink RX7 22 "GalleryBirdsModel" "kind" "[I", Cond.fieldLink RX7 28 "GalleryBirdsModel" "strength" "[I", Cond.methodLink RX7 127 yX7_bearsBy, Cond.static yX7_bearsBy, Cond.code yX7_bearsBy cX7_bearsBy 2 (some .int), Cond.methodLink RX7 160 yX7_size, Cond.static yX7_size, Cond.code yX7_size cX7_size 3 (some .int)]
def wsX7_goShift : List Cond := .code yX7_goShift cX7_goShift 5 none :: ((wsX7_goShift_r1 ++ wsX7_goShift_r2) ++ wsX70)
def wsX7_refuses_r1 : List Cond := [Cond.fieldLink RX7 65 "GalleryBirdsModel" "galleries" "I", Cond.methodLink RX7 74 yX7_isSheet, Cond.static yX7_isSheet, Cond.initialized RX7, Cond.code yX7_isSheet cX7_isSheet 1 (some .boolean), Cond.methodLink RX7 61 yX7_within, Cond.static yX7_within, Cond.code yX7_within cX7_within 3 (some .boolean), Cond.methodLink RX7 78 yX7_isSort, Cond.static yX7_isSort, Cond.code yX7_isSort cX7_isSort 1 (some .boolean), Cond.methodLink RX7 81 yX7_against, Cond.instanceMethod yX7_against, Cond.selects RX7 yX7_against yX7_against, Cond.code yX7_against cX7_against 5 (some .int), Cond.fieldLink RX7 9 "GalleryBirdsModel" "sorts" "[I", Cond.fieldLink RX7 13 "GalleryBirdsModel" "sheetLong" "[I", Cond.methodLink RX7 85 yX7_fails, Cond.instanceMethod yX7_fails, Cond.selects RX7 yX7_fails yX7_fails, Cond.code yX7_fails cX7_fails 2 (some .int), Cond.fieldLink RX7 55 "GalleryBirdsModel" "fault" "I", Cond.methodLink RX7 172 yX7_refusesPairs, Cond.instanceMethod yX7_refusesPairs]
def wsX7_refuses_r2 : List Cond := [Cond.selects RX7 yX7_refusesPairs yX7_refusesPairs, Cond.code yX7_refusesPairs cX7_refusesPairs 4 (some .int), Cond.fieldLink RX7 16 "GalleryBirdsModel" "cells" "[I", Cond.methodLink RX7 131 yX7_isGallery, Cond.instanceMethod yX7_isGallery, Cond.selects RX7 yX7_isGallery yX7_isGallery, Cond.code yX7_isGallery cX7_isGallery 2 (some .boolean), Cond.methodLink RX7 140 yX7_isWord, Cond.instanceMethod yX7_isWord, Cond.selects RX7 yX7_isWord yX7_isWord, Cond.code yX7_isWord cX7_isWord 2 (some .boolean), Cond.fieldLink RX7 68 "GalleryBirdsModel" "words" "I"]
def wsX7_refuses : List Cond := .code yX7_refuses cX7_refuses 8 (some .int) :: ((wsX7_refuses_r1 ++ wsX7_refuses_r2) ++ wsX70)
def wsX7_tellShift : List Cond := .code yX7_tellShift cX7_tellShift 4 (some .int) :: ([.fieldLink RX7 25 "GalleryBirdsModel" "foulNow" "[I", .fieldLink RX7 166 "GalleryBirdsModel" "dropped" "I", .fieldLink RX7 169 "GalleryBirdsModel" "firstWrong" "I", .fieldLink RX7 107 "GalleryBirdsModel" "down" "I", .fieldLink RX7 65 "GalleryBirdsModel" "galleries" "I", .methodLink RX7 131 yX7_isGallery, .instanceMethod yX7_isGallery, .selects RX7 yX7_isGallery yX7_isGallery, .initialized RX7, .code yX7_isGallery cX7_isGallery 2 (some .boolean)] ++ wsX70)
def wsX7_shift_r1 : List Cond := [Cond.fieldLink RX7 55 "GalleryBirdsModel" "fault" "I", Cond.methodLink RX7 61 yX7_within, Cond.static yX7_within, Cond.initialized RX7, Cond.code yX7_within cX7_within 3 (some .boolean), Cond.methodLink RX7 175 yX7_refuses, Cond.instanceMethod yX7_refuses, Cond.selects RX7 yX7_refuses yX7_refuses, Cond.code yX7_refuses cX7_refuses 8 (some .int), Cond.fieldLink RX7 65 "GalleryBirdsModel" "galleries" "I", Cond.methodLink RX7 74 yX7_isSheet, Cond.static yX7_isSheet, Cond.code yX7_isSheet cX7_isSheet 1 (some .boolean), Cond.methodLink RX7 78 yX7_isSort, Cond.static yX7_isSort, Cond.code yX7_isSort cX7_isSort 1 (some .boolean), Cond.methodLink RX7 81 yX7_against, Cond.instanceMethod yX7_against, Cond.selects RX7 yX7_against yX7_against, Cond.code yX7_against cX7_against 5 (some .int), Cond.fieldLink RX7 9 "GalleryBirdsModel" "sorts" "[I", Cond.fieldLink RX7 13 "GalleryBirdsModel" "sheetLong" "[I", Cond.methodLink RX7 85 yX7_fails, Cond.instanceMethod yX7_fails]
def wsX7_shift_r2 : List Cond := [Cond.selects RX7 yX7_fails yX7_fails, Cond.code yX7_fails cX7_fails 2 (some .int), Cond.methodLink RX7 172 yX7_refusesPairs, Cond.instanceMethod yX7_refusesPairs, Cond.selects RX7 yX7_refusesPairs yX7_refusesPairs, Cond.code yX7_refusesPairs cX7_refusesPairs 4 (some .int), Cond.fieldLink RX7 16 "GalleryBirdsModel" "cells" "[I", Cond.methodLink RX7 131 yX7_isGallery, Cond.instanceMethod yX7_isGallery, Cond.selects RX7 yX7_isGallery yX7_isGallery, Cond.code yX7_isGallery cX7_isGallery 2 (some .boolean), Cond.methodLink RX7 140 yX7_isWord, Cond.instanceMethod yX7_isWord, Cond.selects RX7 yX7_isWord yX7_isWord, Cond.code yX7_isWord cX7_isWord 2 (some .boolean), Cond.fieldLink RX7 68 "GalleryBirdsModel" "words" "I", Cond.methodLink RX7 179 yX7_keep, Cond.instanceMethod yX7_keep, Cond.selects RX7 yX7_keep yX7_keep, Cond.code yX7_keep cX7_keep 2 none, Cond.fieldLink RX7 107 "GalleryBirdsModel" "down" "I", Cond.fieldLink RX7 163 "GalleryBirdsModel" "keptDown" "I", Cond.fieldLink RX7 37 "GalleryBirdsModel" "keptFoul" "[I", Cond.fieldLink RX7 25 "GalleryBirdsModel" "foulNow" "[I"]
def wsX7_shift_r3 : List Cond := [Cond.methodLink RX7 182 yX7_goShift, Cond.instanceMethod yX7_goShift, Cond.selects RX7 yX7_goShift yX7_goShift, Cond.code yX7_goShift cX7_goShift 5 none, Cond.fieldLink RX7 166 "GalleryBirdsModel" "dropped" "I", Cond.fieldLink RX7 169 "GalleryBirdsModel" "firstWrong" "I", Cond.methodLink RX7 157 yX7_breathe, Cond.instanceMethod yX7_breathe, Cond.selects RX7 yX7_breathe yX7_breathe, Cond.code yX7_breathe cX7_breathe 3 (some .int), Cond.methodLink RX7 146 yX7_sayIn, Cond.instanceMethod yX7_sayIn, Cond.selects RX7 yX7_sayIn yX7_sayIn, Cond.code yX7_sayIn cX7_sayIn 4 none, Cond.fieldLink RX7 19 "GalleryBirdsModel" "badOf" "[I", Cond.methodLink RX7 150 yX7_pass, Cond.instanceMethod yX7_pass, Cond.selects RX7 yX7_pass yX7_pass, Cond.code yX7_pass cX7_pass 5 (some .int), Cond.fieldLink RX7 101 "GalleryBirdsModel" "doors" "I", Cond.methodLink RX7 143 yX7_isOf, Cond.static yX7_isOf, Cond.code yX7_isOf cX7_isOf 2 (some .boolean), Cond.methodLink RX7 154 yX7_drop]
def wsX7_shift_r4 : List Cond := [Cond.instanceMethod yX7_drop, Cond.selects RX7 yX7_drop yX7_drop, Cond.code yX7_drop cX7_drop 3 (some .int), Cond.methodLink RX7 134 yX7_bearsOf, Cond.instanceMethod yX7_bearsOf, Cond.selects RX7 yX7_bearsOf yX7_bearsOf, Cond.code yX7_bearsOf cX7_bearsOf 2 (some .int), Cond.fieldLink RX7 22 "GalleryBirdsModel" "kind" "[I", Cond.fieldLink RX7 28 "GalleryBirdsModel" "strength" "[I", Cond.methodLink RX7 127 yX7_bearsBy, Cond.static yX7_bearsBy, Cond.code yX7_bearsBy cX7_bearsBy 2 (some .int), Cond.methodLink RX7 160 yX7_size, Cond.static yX7_size, Cond.code yX7_size cX7_size 3 (some .int), Cond.methodLink RX7 185 yX7_tellShift, Cond.instanceMethod yX7_tellShift, Cond.selects RX7 yX7_tellShift yX7_tellShift, Cond.code yX7_tellShift cX7_tellShift 4 (some .int), Cond.methodLink RX7 188 yX7_putBack, Cond.instanceMethod yX7_putBack, Cond.selects RX7 yX7_putBack yX7_putBack, Cond.code yX7_putBack cX7_putBack 2 none]
def wsX7_shift : List Cond := .code yX7_shift cX7_shift 8 (some .int) :: ((wsX7_shift_r1 ++ (wsX7_shift_r2 ++ (wsX7_shift_r3 ++ wsX7_shift_r4))) ++ wsX70)
def wsX7_orderOf : List Cond := .code yX7_orderOf cX7_orderOf 9 none :: ([.fieldLink RX7 40 "GalleryBirdsModel" "row" "[I", .methodLink RX7 143 yX7_isOf, .static yX7_isOf, .initialized RX7, .code yX7_isOf cX7_isOf 2 (some .boolean)] ++ wsX70)
def wsX7_ordersOf : List Cond := .code yX7_ordersOf cX7_ordersOf 3 (some .int) :: ([])
def wsX7_isQuiet_r1 : List Cond := [Cond.fieldLink RX7 16 "GalleryBirdsModel" "cells" "[I", Cond.fieldLink RX7 40 "GalleryBirdsModel" "row" "[I", Cond.methodLink RX7 179 yX7_keep, Cond.instanceMethod yX7_keep, Cond.selects RX7 yX7_keep yX7_keep, Cond.initialized RX7, Cond.code yX7_keep cX7_keep 2 none, Cond.fieldLink RX7 107 "GalleryBirdsModel" "down" "I", Cond.fieldLink RX7 163 "GalleryBirdsModel" "keptDown" "I", Cond.fieldLink RX7 65 "GalleryBirdsModel" "galleries" "I", Cond.fieldLink RX7 37 "GalleryBirdsModel" "keptFoul" "[I", Cond.fieldLink RX7 25 "GalleryBirdsModel" "foulNow" "[I", Cond.methodLink RX7 157 yX7_breathe, Cond.instanceMethod yX7_breathe, Cond.selects RX7 yX7_breathe yX7_breathe, Cond.code yX7_breathe cX7_breathe 3 (some .int), Cond.methodLink RX7 146 yX7_sayIn, Cond.instanceMethod yX7_sayIn, Cond.selects RX7 yX7_sayIn yX7_sayIn, Cond.code yX7_sayIn cX7_sayIn 4 none, Cond.fieldLink RX7 19 "GalleryBirdsModel" "badOf" "[I", Cond.methodLink RX7 150 yX7_pass, Cond.instanceMethod yX7_pass, Cond.selects RX7 yX7_pass yX7_pass]
def wsX7_isQuiet_r2 : List Cond := [Cond.code yX7_pass cX7_pass 5 (some .int), Cond.fieldLink RX7 101 "GalleryBirdsModel" "doors" "I", Cond.methodLink RX7 143 yX7_isOf, Cond.static yX7_isOf, Cond.code yX7_isOf cX7_isOf 2 (some .boolean), Cond.methodLink RX7 154 yX7_drop, Cond.instanceMethod yX7_drop, Cond.selects RX7 yX7_drop yX7_drop, Cond.code yX7_drop cX7_drop 3 (some .int), Cond.methodLink RX7 134 yX7_bearsOf, Cond.instanceMethod yX7_bearsOf, Cond.selects RX7 yX7_bearsOf yX7_bearsOf, Cond.code yX7_bearsOf cX7_bearsOf 2 (some .int), Cond.fieldLink RX7 22 "GalleryBirdsModel" "kind" "[I", Cond.fieldLink RX7 28 "GalleryBirdsModel" "strength" "[I", Cond.methodLink RX7 127 yX7_bearsBy, Cond.static yX7_bearsBy, Cond.code yX7_bearsBy cX7_bearsBy 2 (some .int), Cond.methodLink RX7 188 yX7_putBack, Cond.instanceMethod yX7_putBack, Cond.selects RX7 yX7_putBack yX7_putBack, Cond.code yX7_putBack cX7_putBack 2 none]
def wsX7_isQuiet : List Cond := .code yX7_isQuiet cX7_isQuiet 5 (some .boolean) :: ((wsX7_isQuiet_r1 ++ wsX7_isQuiet_r2) ++ wsX70)
def wsX7_order_r1 : List Cond := [Cond.fieldLink RX7 55 "GalleryBirdsModel" "fault" "I", Cond.fieldLink RX7 40 "GalleryBirdsModel" "row" "[I", Cond.methodLink RX7 61 yX7_within, Cond.static yX7_within, Cond.initialized RX7, Cond.code yX7_within cX7_within 3 (some .boolean), Cond.methodLink RX7 175 yX7_refuses, Cond.instanceMethod yX7_refuses, Cond.selects RX7 yX7_refuses yX7_refuses, Cond.code yX7_refuses cX7_refuses 8 (some .int), Cond.fieldLink RX7 65 "GalleryBirdsModel" "galleries" "I", Cond.methodLink RX7 74 yX7_isSheet, Cond.static yX7_isSheet, Cond.code yX7_isSheet cX7_isSheet 1 (some .boolean), Cond.methodLink RX7 78 yX7_isSort, Cond.static yX7_isSort, Cond.code yX7_isSort cX7_isSort 1 (some .boolean), Cond.methodLink RX7 81 yX7_against, Cond.instanceMethod yX7_against, Cond.selects RX7 yX7_against yX7_against, Cond.code yX7_against cX7_against 5 (some .int), Cond.fieldLink RX7 9 "GalleryBirdsModel" "sorts" "[I", Cond.fieldLink RX7 13 "GalleryBirdsModel" "sheetLong" "[I", Cond.methodLink RX7 85 yX7_fails]
def wsX7_order_r2 : List Cond := [Cond.instanceMethod yX7_fails, Cond.selects RX7 yX7_fails yX7_fails, Cond.code yX7_fails cX7_fails 2 (some .int), Cond.methodLink RX7 172 yX7_refusesPairs, Cond.instanceMethod yX7_refusesPairs, Cond.selects RX7 yX7_refusesPairs yX7_refusesPairs, Cond.code yX7_refusesPairs cX7_refusesPairs 4 (some .int), Cond.fieldLink RX7 16 "GalleryBirdsModel" "cells" "[I", Cond.methodLink RX7 131 yX7_isGallery, Cond.instanceMethod yX7_isGallery, Cond.selects RX7 yX7_isGallery yX7_isGallery, Cond.code yX7_isGallery cX7_isGallery 2 (some .boolean), Cond.methodLink RX7 140 yX7_isWord, Cond.instanceMethod yX7_isWord, Cond.selects RX7 yX7_isWord yX7_isWord, Cond.code yX7_isWord cX7_isWord 2 (some .boolean), Cond.fieldLink RX7 68 "GalleryBirdsModel" "words" "I", Cond.methodLink RX7 191 yX7_ordersOf, Cond.static yX7_ordersOf, Cond.code yX7_ordersOf cX7_ordersOf 3 (some .int), Cond.methodLink RX7 194 yX7_orderOf, Cond.instanceMethod yX7_orderOf, Cond.selects RX7 yX7_orderOf yX7_orderOf, Cond.code yX7_orderOf cX7_orderOf 9 none]
def wsX7_order_r3 : List Cond := [Cond.methodLink RX7 143 yX7_isOf, Cond.static yX7_isOf, Cond.code yX7_isOf cX7_isOf 2 (some .boolean), Cond.methodLink RX7 197 yX7_isQuiet, Cond.instanceMethod yX7_isQuiet, Cond.selects RX7 yX7_isQuiet yX7_isQuiet, Cond.code yX7_isQuiet cX7_isQuiet 5 (some .boolean), Cond.methodLink RX7 179 yX7_keep, Cond.instanceMethod yX7_keep, Cond.selects RX7 yX7_keep yX7_keep, Cond.code yX7_keep cX7_keep 2 none, Cond.fieldLink RX7 107 "GalleryBirdsModel" "down" "I", Cond.fieldLink RX7 163 "GalleryBirdsModel" "keptDown" "I", Cond.fieldLink RX7 37 "GalleryBirdsModel" "keptFoul" "[I", Cond.fieldLink RX7 25 "GalleryBirdsModel" "foulNow" "[I", Cond.methodLink RX7 157 yX7_breathe, Cond.instanceMethod yX7_breathe, Cond.selects RX7 yX7_breathe yX7_breathe, Cond.code yX7_breathe cX7_breathe 3 (some .int), Cond.methodLink RX7 146 yX7_sayIn, Cond.instanceMethod yX7_sayIn, Cond.selects RX7 yX7_sayIn yX7_sayIn, Cond.code yX7_sayIn cX7_sayIn 4 none, Cond.fieldLink RX7 19 "GalleryBirdsModel" "badOf" "[I"]
def wsX7_order_r4 : List Cond := [Cond.methodLink RX7 150 yX7_pass, Cond.instanceMethod yX7_pass, Cond.selects RX7 yX7_pass yX7_pass, Cond.code yX7_pass cX7_pass 5 (some .int), Cond.fieldLink RX7 101 "GalleryBirdsModel" "doors" "I", Cond.methodLink RX7 154 yX7_drop, Cond.instanceMethod yX7_drop, Cond.selects RX7 yX7_drop yX7_drop, Cond.code yX7_drop cX7_drop 3 (some .int), Cond.methodLink RX7 134 yX7_bearsOf, Cond.instanceMethod yX7_bearsOf, Cond.selects RX7 yX7_bearsOf yX7_bearsOf, Cond.code yX7_bearsOf cX7_bearsOf 2 (some .int), Cond.fieldLink RX7 22 "GalleryBirdsModel" "kind" "[I", Cond.fieldLink RX7 28 "GalleryBirdsModel" "strength" "[I", Cond.methodLink RX7 127 yX7_bearsBy, Cond.static yX7_bearsBy, Cond.code yX7_bearsBy cX7_bearsBy 2 (some .int), Cond.methodLink RX7 188 yX7_putBack, Cond.instanceMethod yX7_putBack, Cond.selects RX7 yX7_putBack yX7_putBack, Cond.code yX7_putBack cX7_putBack 2 none]
def wsX7_order : List Cond := .code yX7_order cX7_order 8 (some .int) :: ((wsX7_order_r1 ++ (wsX7_order_r2 ++ (wsX7_order_r3 ++ wsX7_order_r4))) ++ wsX70)
def wsX7_shut_r1 : List Cond := [Cond.fieldLink RX7 55 "GalleryBirdsModel" "fault" "I", Cond.fieldLink RX7 101 "GalleryBirdsModel" "doors" "I", Cond.fieldLink RX7 65 "GalleryBirdsModel" "galleries" "I", Cond.fieldLink RX7 166 "GalleryBirdsModel" "dropped" "I", Cond.methodLink RX7 61 yX7_within, Cond.static yX7_within, Cond.initialized RX7, Cond.code yX7_within cX7_within 3 (some .boolean), Cond.methodLink RX7 175 yX7_refuses, Cond.instanceMethod yX7_refuses, Cond.selects RX7 yX7_refuses yX7_refuses, Cond.code yX7_refuses cX7_refuses 8 (some .int), Cond.methodLink RX7 74 yX7_isSheet, Cond.static yX7_isSheet, Cond.code yX7_isSheet cX7_isSheet 1 (some .boolean), Cond.methodLink RX7 78 yX7_isSort, Cond.static yX7_isSort, Cond.code yX7_isSort cX7_isSort 1 (some .boolean), Cond.methodLink RX7 81 yX7_against, Cond.instanceMethod yX7_against, Cond.selects RX7 yX7_against yX7_against, Cond.code yX7_against cX7_against 5 (some .int), Cond.fieldLink RX7 9 "GalleryBirdsModel" "sorts" "[I", Cond.fieldLink RX7 13 "GalleryBirdsModel" "sheetLong" "[I"]
def wsX7_shut_r2 : List Cond := [Cond.methodLink RX7 85 yX7_fails, Cond.instanceMethod yX7_fails, Cond.selects RX7 yX7_fails yX7_fails, Cond.code yX7_fails cX7_fails 2 (some .int), Cond.methodLink RX7 172 yX7_refusesPairs, Cond.instanceMethod yX7_refusesPairs, Cond.selects RX7 yX7_refusesPairs yX7_refusesPairs, Cond.code yX7_refusesPairs cX7_refusesPairs 4 (some .int), Cond.fieldLink RX7 16 "GalleryBirdsModel" "cells" "[I", Cond.methodLink RX7 131 yX7_isGallery, Cond.instanceMethod yX7_isGallery, Cond.selects RX7 yX7_isGallery yX7_isGallery, Cond.code yX7_isGallery cX7_isGallery 2 (some .boolean), Cond.methodLink RX7 140 yX7_isWord, Cond.instanceMethod yX7_isWord, Cond.selects RX7 yX7_isWord yX7_isWord, Cond.code yX7_isWord cX7_isWord 2 (some .boolean), Cond.fieldLink RX7 68 "GalleryBirdsModel" "words" "I", Cond.methodLink RX7 179 yX7_keep, Cond.instanceMethod yX7_keep, Cond.selects RX7 yX7_keep yX7_keep, Cond.code yX7_keep cX7_keep 2 none, Cond.fieldLink RX7 107 "GalleryBirdsModel" "down" "I", Cond.fieldLink RX7 163 "GalleryBirdsModel" "keptDown" "I"]
def wsX7_shut_r3 : List Cond := [Cond.fieldLink RX7 37 "GalleryBirdsModel" "keptFoul" "[I", Cond.fieldLink RX7 25 "GalleryBirdsModel" "foulNow" "[I", Cond.methodLink RX7 182 yX7_goShift, Cond.instanceMethod yX7_goShift, Cond.selects RX7 yX7_goShift yX7_goShift, Cond.code yX7_goShift cX7_goShift 5 none, Cond.fieldLink RX7 169 "GalleryBirdsModel" "firstWrong" "I", Cond.methodLink RX7 157 yX7_breathe, Cond.instanceMethod yX7_breathe, Cond.selects RX7 yX7_breathe yX7_breathe, Cond.code yX7_breathe cX7_breathe 3 (some .int), Cond.methodLink RX7 146 yX7_sayIn, Cond.instanceMethod yX7_sayIn, Cond.selects RX7 yX7_sayIn yX7_sayIn, Cond.code yX7_sayIn cX7_sayIn 4 none, Cond.fieldLink RX7 19 "GalleryBirdsModel" "badOf" "[I", Cond.methodLink RX7 150 yX7_pass, Cond.instanceMethod yX7_pass, Cond.selects RX7 yX7_pass yX7_pass, Cond.code yX7_pass cX7_pass 5 (some .int), Cond.methodLink RX7 143 yX7_isOf, Cond.static yX7_isOf, Cond.code yX7_isOf cX7_isOf 2 (some .boolean), Cond.methodLink RX7 154 yX7_drop]
def wsX7_shut_r4 : List Cond := [Cond.instanceMethod yX7_drop, Cond.selects RX7 yX7_drop yX7_drop, Cond.code yX7_drop cX7_drop 3 (some .int), Cond.methodLink RX7 134 yX7_bearsOf, Cond.instanceMethod yX7_bearsOf, Cond.selects RX7 yX7_bearsOf yX7_bearsOf, Cond.code yX7_bearsOf cX7_bearsOf 2 (some .int), Cond.fieldLink RX7 22 "GalleryBirdsModel" "kind" "[I", Cond.fieldLink RX7 28 "GalleryBirdsModel" "strength" "[I", Cond.methodLink RX7 127 yX7_bearsBy, Cond.static yX7_bearsBy, Cond.code yX7_bearsBy cX7_bearsBy 2 (some .int), Cond.methodLink RX7 160 yX7_size, Cond.static yX7_size, Cond.code yX7_size cX7_size 3 (some .int), Cond.methodLink RX7 188 yX7_putBack, Cond.instanceMethod yX7_putBack, Cond.selects RX7 yX7_putBack yX7_putBack, Cond.code yX7_putBack cX7_putBack 2 none]
def wsX7_shut : List Cond := .code yX7_shut cX7_shut 11 (some .int) :: ((wsX7_shut_r1 ++ (wsX7_shut_r2 ++ (wsX7_shut_r3 ++ wsX7_shut_r4))) ++ wsX70)
def wsX7_rests : List Cond := .code yX7_rests cX7_rests 2 (some .int) :: ([.fieldLink RX7 65 "GalleryBirdsModel" "galleries" "I", .methodLink RX7 179 yX7_keep, .instanceMethod yX7_keep, .selects RX7 yX7_keep yX7_keep, .initialized RX7, .code yX7_keep cX7_keep 2 none, .fieldLink RX7 107 "GalleryBirdsModel" "down" "I", .fieldLink RX7 163 "GalleryBirdsModel" "keptDown" "I", .fieldLink RX7 37 "GalleryBirdsModel" "keptFoul" "[I", .fieldLink RX7 25 "GalleryBirdsModel" "foulNow" "[I", .methodLink RX7 150 yX7_pass, .instanceMethod yX7_pass, .selects RX7 yX7_pass yX7_pass, .code yX7_pass cX7_pass 5 (some .int), .fieldLink RX7 101 "GalleryBirdsModel" "doors" "I", .methodLink RX7 143 yX7_isOf, .static yX7_isOf, .code yX7_isOf cX7_isOf 2 (some .boolean), .methodLink RX7 188 yX7_putBack, .instanceMethod yX7_putBack, .selects RX7 yX7_putBack yX7_putBack, .code yX7_putBack cX7_putBack 2 none] ++ wsX70)
def wsX7_clears_r1 : List Cond := [Cond.fieldLink RX7 25 "GalleryBirdsModel" "foulNow" "[I", Cond.methodLink RX7 131 yX7_isGallery, Cond.instanceMethod yX7_isGallery, Cond.selects RX7 yX7_isGallery yX7_isGallery, Cond.initialized RX7, Cond.code yX7_isGallery cX7_isGallery 2 (some .boolean), Cond.fieldLink RX7 65 "GalleryBirdsModel" "galleries" "I", Cond.methodLink RX7 61 yX7_within, Cond.static yX7_within, Cond.code yX7_within cX7_within 3 (some .boolean), Cond.methodLink RX7 179 yX7_keep, Cond.instanceMethod yX7_keep, Cond.selects RX7 yX7_keep yX7_keep, Cond.code yX7_keep cX7_keep 2 none, Cond.fieldLink RX7 107 "GalleryBirdsModel" "down" "I", Cond.fieldLink RX7 163 "GalleryBirdsModel" "keptDown" "I", Cond.fieldLink RX7 37 "GalleryBirdsModel" "keptFoul" "[I", Cond.methodLink RX7 150 yX7_pass, Cond.instanceMethod yX7_pass, Cond.selects RX7 yX7_pass yX7_pass, Cond.code yX7_pass cX7_pass 5 (some .int), Cond.fieldLink RX7 101 "GalleryBirdsModel" "doors" "I", Cond.methodLink RX7 143 yX7_isOf, Cond.static yX7_isOf]
def wsX7_clears_r2 : List Cond := [Cond.code yX7_isOf cX7_isOf 2 (some .boolean), Cond.methodLink RX7 188 yX7_putBack, Cond.instanceMethod yX7_putBack, Cond.selects RX7 yX7_putBack yX7_putBack, Cond.code yX7_putBack cX7_putBack 2 none]
def wsX7_clears : List Cond := .code yX7_clears cX7_clears 4 (some .int) :: ((wsX7_clears_r1 ++ wsX7_clears_r2) ++ wsX70)
def wsX7_findPerches : List Cond := .code yX7_findPerches cX7_findPerches 5 (some .int) :: ([.fieldLink RX7 65 "GalleryBirdsModel" "galleries" "I", .fieldLink RX7 25 "GalleryBirdsModel" "foulNow" "[I", .fieldLink RX7 40 "GalleryBirdsModel" "row" "[I", .fieldLink RX7 43 "GalleryBirdsModel" "perched" "[I", .methodLink RX7 191 yX7_ordersOf, .static yX7_ordersOf, .initialized RX7, .code yX7_ordersOf cX7_ordersOf 3 (some .int), .methodLink RX7 194 yX7_orderOf, .instanceMethod yX7_orderOf, .selects RX7 yX7_orderOf yX7_orderOf, .code yX7_orderOf cX7_orderOf 9 none, .methodLink RX7 143 yX7_isOf, .static yX7_isOf, .code yX7_isOf cX7_isOf 2 (some .boolean), .methodLink RX7 134 yX7_bearsOf, .instanceMethod yX7_bearsOf, .selects RX7 yX7_bearsOf yX7_bearsOf, .code yX7_bearsOf cX7_bearsOf 2 (some .int), .fieldLink RX7 22 "GalleryBirdsModel" "kind" "[I", .fieldLink RX7 28 "GalleryBirdsModel" "strength" "[I", .methodLink RX7 127 yX7_bearsBy, .static yX7_bearsBy, .code yX7_bearsBy cX7_bearsBy 2 (some .int)] ++ wsX70)
def wsX7_perches_r1 : List Cond := [Cond.fieldLink RX7 65 "GalleryBirdsModel" "galleries" "I", Cond.fieldLink RX7 43 "GalleryBirdsModel" "perched" "[I", Cond.methodLink RX7 61 yX7_within, Cond.static yX7_within, Cond.initialized RX7, Cond.code yX7_within cX7_within 3 (some .boolean), Cond.methodLink RX7 200 yX7_findPerches, Cond.instanceMethod yX7_findPerches, Cond.selects RX7 yX7_findPerches yX7_findPerches, Cond.code yX7_findPerches cX7_findPerches 5 (some .int), Cond.fieldLink RX7 25 "GalleryBirdsModel" "foulNow" "[I", Cond.fieldLink RX7 40 "GalleryBirdsModel" "row" "[I", Cond.methodLink RX7 191 yX7_ordersOf, Cond.static yX7_ordersOf, Cond.code yX7_ordersOf cX7_ordersOf 3 (some .int), Cond.methodLink RX7 194 yX7_orderOf, Cond.instanceMethod yX7_orderOf, Cond.selects RX7 yX7_orderOf yX7_orderOf, Cond.code yX7_orderOf cX7_orderOf 9 none, Cond.methodLink RX7 143 yX7_isOf, Cond.static yX7_isOf, Cond.code yX7_isOf cX7_isOf 2 (some .boolean), Cond.methodLink RX7 134 yX7_bearsOf, Cond.instanceMethod yX7_bearsOf]
def wsX7_perches_r2 : List Cond := [Cond.selects RX7 yX7_bearsOf yX7_bearsOf, Cond.code yX7_bearsOf cX7_bearsOf 2 (some .int), Cond.fieldLink RX7 22 "GalleryBirdsModel" "kind" "[I", Cond.fieldLink RX7 28 "GalleryBirdsModel" "strength" "[I", Cond.methodLink RX7 127 yX7_bearsBy, Cond.static yX7_bearsBy, Cond.code yX7_bearsBy cX7_bearsBy 2 (some .int), Cond.methodLink RX7 131 yX7_isGallery, Cond.instanceMethod yX7_isGallery, Cond.selects RX7 yX7_isGallery yX7_isGallery, Cond.code yX7_isGallery cX7_isGallery 2 (some .boolean)]
def wsX7_perches : List Cond := .code yX7_perches cX7_perches 3 (some .int) :: ((wsX7_perches_r1 ++ wsX7_perches_r2) ++ wsX70)
def wsX7_isFound_r1 : List Cond := [Cond.fieldLink RX7 65 "GalleryBirdsModel" "galleries" "I", Cond.fieldLink RX7 25 "GalleryBirdsModel" "foulNow" "[I", Cond.fieldLink RX7 16 "GalleryBirdsModel" "cells" "[I", Cond.methodLink RX7 179 yX7_keep, Cond.instanceMethod yX7_keep, Cond.selects RX7 yX7_keep yX7_keep, Cond.initialized RX7, Cond.code yX7_keep cX7_keep 2 none, Cond.fieldLink RX7 107 "GalleryBirdsModel" "down" "I", Cond.fieldLink RX7 163 "GalleryBirdsModel" "keptDown" "I", Cond.fieldLink RX7 37 "GalleryBirdsModel" "keptFoul" "[I", Cond.methodLink RX7 157 yX7_breathe, Cond.instanceMethod yX7_breathe, Cond.selects RX7 yX7_breathe yX7_breathe, Cond.code yX7_breathe cX7_breathe 3 (some .int), Cond.methodLink RX7 146 yX7_sayIn, Cond.instanceMethod yX7_sayIn, Cond.selects RX7 yX7_sayIn yX7_sayIn, Cond.code yX7_sayIn cX7_sayIn 4 none, Cond.fieldLink RX7 19 "GalleryBirdsModel" "badOf" "[I", Cond.methodLink RX7 150 yX7_pass, Cond.instanceMethod yX7_pass, Cond.selects RX7 yX7_pass yX7_pass, Cond.code yX7_pass cX7_pass 5 (some .int)]
def wsX7_isFound_r2 : List Cond := [Cond.fieldLink RX7 101 "GalleryBirdsModel" "doors" "I", Cond.methodLink RX7 143 yX7_isOf, Cond.static yX7_isOf, Cond.code yX7_isOf cX7_isOf 2 (some .boolean), Cond.methodLink RX7 154 yX7_drop, Cond.instanceMethod yX7_drop, Cond.selects RX7 yX7_drop yX7_drop, Cond.code yX7_drop cX7_drop 3 (some .int), Cond.methodLink RX7 134 yX7_bearsOf, Cond.instanceMethod yX7_bearsOf, Cond.selects RX7 yX7_bearsOf yX7_bearsOf, Cond.code yX7_bearsOf cX7_bearsOf 2 (some .int), Cond.fieldLink RX7 22 "GalleryBirdsModel" "kind" "[I", Cond.fieldLink RX7 28 "GalleryBirdsModel" "strength" "[I", Cond.methodLink RX7 127 yX7_bearsBy, Cond.static yX7_bearsBy, Cond.code yX7_bearsBy cX7_bearsBy 2 (some .int), Cond.methodLink RX7 188 yX7_putBack, Cond.instanceMethod yX7_putBack, Cond.selects RX7 yX7_putBack yX7_putBack, Cond.code yX7_putBack cX7_putBack 2 none]
def wsX7_isFound : List Cond := .code yX7_isFound cX7_isFound 6 (some .boolean) :: ((wsX7_isFound_r1 ++ wsX7_isFound_r2) ++ wsX70)
def wsX7_found_r1 : List Cond := [Cond.fieldLink RX7 55 "GalleryBirdsModel" "fault" "I", Cond.fieldLink RX7 65 "GalleryBirdsModel" "galleries" "I", Cond.fieldLink RX7 68 "GalleryBirdsModel" "words" "I", Cond.methodLink RX7 74 yX7_isSheet, Cond.static yX7_isSheet, Cond.initialized RX7, Cond.code yX7_isSheet cX7_isSheet 1 (some .boolean), Cond.methodLink RX7 61 yX7_within, Cond.static yX7_within, Cond.code yX7_within cX7_within 3 (some .boolean), Cond.methodLink RX7 78 yX7_isSort, Cond.static yX7_isSort, Cond.code yX7_isSort cX7_isSort 1 (some .boolean), Cond.methodLink RX7 81 yX7_against, Cond.instanceMethod yX7_against, Cond.selects RX7 yX7_against yX7_against, Cond.code yX7_against cX7_against 5 (some .int), Cond.fieldLink RX7 9 "GalleryBirdsModel" "sorts" "[I", Cond.fieldLink RX7 13 "GalleryBirdsModel" "sheetLong" "[I", Cond.methodLink RX7 85 yX7_fails, Cond.instanceMethod yX7_fails, Cond.selects RX7 yX7_fails yX7_fails, Cond.code yX7_fails cX7_fails 2 (some .int), Cond.methodLink RX7 203 yX7_isFound]
def wsX7_found_r2 : List Cond := [Cond.instanceMethod yX7_isFound, Cond.selects RX7 yX7_isFound yX7_isFound, Cond.code yX7_isFound cX7_isFound 6 (some .boolean), Cond.fieldLink RX7 25 "GalleryBirdsModel" "foulNow" "[I", Cond.fieldLink RX7 16 "GalleryBirdsModel" "cells" "[I", Cond.methodLink RX7 179 yX7_keep, Cond.instanceMethod yX7_keep, Cond.selects RX7 yX7_keep yX7_keep, Cond.code yX7_keep cX7_keep 2 none, Cond.fieldLink RX7 107 "GalleryBirdsModel" "down" "I", Cond.fieldLink RX7 163 "GalleryBirdsModel" "keptDown" "I", Cond.fieldLink RX7 37 "GalleryBirdsModel" "keptFoul" "[I", Cond.methodLink RX7 157 yX7_breathe, Cond.instanceMethod yX7_breathe, Cond.selects RX7 yX7_breathe yX7_breathe, Cond.code yX7_breathe cX7_breathe 3 (some .int), Cond.methodLink RX7 146 yX7_sayIn, Cond.instanceMethod yX7_sayIn, Cond.selects RX7 yX7_sayIn yX7_sayIn, Cond.code yX7_sayIn cX7_sayIn 4 none, Cond.fieldLink RX7 19 "GalleryBirdsModel" "badOf" "[I", Cond.methodLink RX7 150 yX7_pass, Cond.instanceMethod yX7_pass, Cond.selects RX7 yX7_pass yX7_pass]
def wsX7_found_r3 : List Cond := [Cond.code yX7_pass cX7_pass 5 (some .int), Cond.fieldLink RX7 101 "GalleryBirdsModel" "doors" "I", Cond.methodLink RX7 143 yX7_isOf, Cond.static yX7_isOf, Cond.code yX7_isOf cX7_isOf 2 (some .boolean), Cond.methodLink RX7 154 yX7_drop, Cond.instanceMethod yX7_drop, Cond.selects RX7 yX7_drop yX7_drop, Cond.code yX7_drop cX7_drop 3 (some .int), Cond.methodLink RX7 134 yX7_bearsOf, Cond.instanceMethod yX7_bearsOf, Cond.selects RX7 yX7_bearsOf yX7_bearsOf, Cond.code yX7_bearsOf cX7_bearsOf 2 (some .int), Cond.fieldLink RX7 22 "GalleryBirdsModel" "kind" "[I", Cond.fieldLink RX7 28 "GalleryBirdsModel" "strength" "[I", Cond.methodLink RX7 127 yX7_bearsBy, Cond.static yX7_bearsBy, Cond.code yX7_bearsBy cX7_bearsBy 2 (some .int), Cond.methodLink RX7 188 yX7_putBack, Cond.instanceMethod yX7_putBack, Cond.selects RX7 yX7_putBack yX7_putBack, Cond.code yX7_putBack cX7_putBack 2 none]
def wsX7_found : List Cond := .code yX7_found cX7_found 8 (some .int) :: ((wsX7_found_r1 ++ (wsX7_found_r2 ++ wsX7_found_r3)) ++ wsX70)
def wsX7_reading : List Cond := .code yX7_reading cX7_reading 4 (some .int) :: ([.fieldLink RX7 110 "GalleryBirdsModel" "readings" "I", .fieldLink RX7 46 "GalleryBirdsModel" "readWhere" "[I", .fieldLink RX7 49 "GalleryBirdsModel" "readFoul" "[I", .fieldLink RX7 52 "GalleryBirdsModel" "readDropped" "[I", .methodLink RX7 131 yX7_isGallery, .instanceMethod yX7_isGallery, .selects RX7 yX7_isGallery yX7_isGallery, .initialized RX7, .code yX7_isGallery cX7_isGallery 2 (some .boolean), .fieldLink RX7 65 "GalleryBirdsModel" "galleries" "I", .methodLink RX7 61 yX7_within, .static yX7_within, .code yX7_within cX7_within 3 (some .boolean)] ++ wsX70)
def wsX7_back : List Cond := .code yX7_back cX7_back 2 (some .int) :: ([.fieldLink RX7 110 "GalleryBirdsModel" "readings" "I", .methodLink RX7 61 yX7_within, .static yX7_within, .initialized RX7, .code yX7_within cX7_within 3 (some .boolean)] ++ wsX70)
def wsX7_areSo : List Cond := .code yX7_areSo cX7_areSo 3 (some .boolean) :: ([.fieldLink RX7 110 "GalleryBirdsModel" "readings" "I", .fieldLink RX7 49 "GalleryBirdsModel" "readFoul" "[I", .fieldLink RX7 46 "GalleryBirdsModel" "readWhere" "[I", .fieldLink RX7 52 "GalleryBirdsModel" "readDropped" "[I", .methodLink RX7 134 yX7_bearsOf, .instanceMethod yX7_bearsOf, .selects RX7 yX7_bearsOf yX7_bearsOf, .initialized RX7, .code yX7_bearsOf cX7_bearsOf 2 (some .int), .fieldLink RX7 22 "GalleryBirdsModel" "kind" "[I", .fieldLink RX7 28 "GalleryBirdsModel" "strength" "[I", .methodLink RX7 127 yX7_bearsBy, .static yX7_bearsBy, .code yX7_bearsBy cX7_bearsBy 2 (some .int)] ++ wsX70)
def wsX7_strengths : List Cond := .code yX7_strengths cX7_strengths 5 (some .int) :: ([.fieldLink RX7 28 "GalleryBirdsModel" "strength" "[I", .methodLink RX7 131 yX7_isGallery, .instanceMethod yX7_isGallery, .selects RX7 yX7_isGallery yX7_isGallery, .initialized RX7, .code yX7_isGallery cX7_isGallery 2 (some .boolean), .fieldLink RX7 65 "GalleryBirdsModel" "galleries" "I", .methodLink RX7 206 yX7_areSo, .instanceMethod yX7_areSo, .selects RX7 yX7_areSo yX7_areSo, .code yX7_areSo cX7_areSo 3 (some .boolean), .fieldLink RX7 110 "GalleryBirdsModel" "readings" "I", .fieldLink RX7 49 "GalleryBirdsModel" "readFoul" "[I", .fieldLink RX7 46 "GalleryBirdsModel" "readWhere" "[I", .fieldLink RX7 52 "GalleryBirdsModel" "readDropped" "[I", .methodLink RX7 134 yX7_bearsOf, .instanceMethod yX7_bearsOf, .selects RX7 yX7_bearsOf yX7_bearsOf, .code yX7_bearsOf cX7_bearsOf 2 (some .int), .fieldLink RX7 22 "GalleryBirdsModel" "kind" "[I", .methodLink RX7 127 yX7_bearsBy, .static yX7_bearsBy, .code yX7_bearsBy cX7_bearsBy 2 (some .int)] ++ wsX70)
def wsX7_kinds : List Cond := .code yX7_kinds cX7_kinds 5 (some .int) :: ([.fieldLink RX7 22 "GalleryBirdsModel" "kind" "[I", .methodLink RX7 131 yX7_isGallery, .instanceMethod yX7_isGallery, .selects RX7 yX7_isGallery yX7_isGallery, .initialized RX7, .code yX7_isGallery cX7_isGallery 2 (some .boolean), .fieldLink RX7 65 "GalleryBirdsModel" "galleries" "I", .methodLink RX7 206 yX7_areSo, .instanceMethod yX7_areSo, .selects RX7 yX7_areSo yX7_areSo, .code yX7_areSo cX7_areSo 3 (some .boolean), .fieldLink RX7 110 "GalleryBirdsModel" "readings" "I", .fieldLink RX7 49 "GalleryBirdsModel" "readFoul" "[I", .fieldLink RX7 46 "GalleryBirdsModel" "readWhere" "[I", .fieldLink RX7 52 "GalleryBirdsModel" "readDropped" "[I", .methodLink RX7 134 yX7_bearsOf, .instanceMethod yX7_bearsOf, .selects RX7 yX7_bearsOf yX7_bearsOf, .code yX7_bearsOf cX7_bearsOf 2 (some .int), .fieldLink RX7 28 "GalleryBirdsModel" "strength" "[I", .methodLink RX7 127 yX7_bearsBy, .static yX7_bearsBy, .code yX7_bearsBy cX7_bearsBy 2 (some .int)] ++ wsX70)
def wsX7_inLeastTerms : List Cond := .code yX7_inLeastTerms cX7_inLeastTerms 11 (some .long) :: ([])
def wsX7_odds_r1 : List Cond := [Cond.constantLong RX7 59 (-9223372036854775808), Cond.fieldLink RX7 65 "GalleryBirdsModel" "galleries" "I", Cond.fieldLink RX7 68 "GalleryBirdsModel" "words" "I", Cond.fieldLink RX7 107 "GalleryBirdsModel" "down" "I", Cond.methodLink RX7 131 yX7_isGallery, Cond.instanceMethod yX7_isGallery, Cond.selects RX7 yX7_isGallery yX7_isGallery, Cond.initialized RX7, Cond.code yX7_isGallery cX7_isGallery 2 (some .boolean), Cond.methodLink RX7 61 yX7_within, Cond.static yX7_within, Cond.code yX7_within cX7_within 3 (some .boolean), Cond.methodLink RX7 179 yX7_keep, Cond.instanceMethod yX7_keep, Cond.selects RX7 yX7_keep yX7_keep, Cond.code yX7_keep cX7_keep 2 none, Cond.fieldLink RX7 163 "GalleryBirdsModel" "keptDown" "I", Cond.fieldLink RX7 37 "GalleryBirdsModel" "keptFoul" "[I", Cond.fieldLink RX7 25 "GalleryBirdsModel" "foulNow" "[I", Cond.methodLink RX7 157 yX7_breathe, Cond.instanceMethod yX7_breathe, Cond.selects RX7 yX7_breathe yX7_breathe, Cond.code yX7_breathe cX7_breathe 3 (some .int), Cond.methodLink RX7 146 yX7_sayIn]
def wsX7_odds_r2 : List Cond := [Cond.instanceMethod yX7_sayIn, Cond.selects RX7 yX7_sayIn yX7_sayIn, Cond.code yX7_sayIn cX7_sayIn 4 none, Cond.fieldLink RX7 19 "GalleryBirdsModel" "badOf" "[I", Cond.methodLink RX7 150 yX7_pass, Cond.instanceMethod yX7_pass, Cond.selects RX7 yX7_pass yX7_pass, Cond.code yX7_pass cX7_pass 5 (some .int), Cond.fieldLink RX7 101 "GalleryBirdsModel" "doors" "I", Cond.methodLink RX7 143 yX7_isOf, Cond.static yX7_isOf, Cond.code yX7_isOf cX7_isOf 2 (some .boolean), Cond.methodLink RX7 154 yX7_drop, Cond.instanceMethod yX7_drop, Cond.selects RX7 yX7_drop yX7_drop, Cond.code yX7_drop cX7_drop 3 (some .int), Cond.methodLink RX7 134 yX7_bearsOf, Cond.instanceMethod yX7_bearsOf, Cond.selects RX7 yX7_bearsOf yX7_bearsOf, Cond.code yX7_bearsOf cX7_bearsOf 2 (some .int), Cond.fieldLink RX7 22 "GalleryBirdsModel" "kind" "[I", Cond.fieldLink RX7 28 "GalleryBirdsModel" "strength" "[I", Cond.methodLink RX7 127 yX7_bearsBy, Cond.static yX7_bearsBy]
def wsX7_odds_r3 : List Cond := [Cond.code yX7_bearsBy cX7_bearsBy 2 (some .int), Cond.methodLink RX7 188 yX7_putBack, Cond.instanceMethod yX7_putBack, Cond.selects RX7 yX7_putBack yX7_putBack, Cond.code yX7_putBack cX7_putBack 2 none, Cond.methodLink RX7 210 yX7_inLeastTerms, Cond.static yX7_inLeastTerms, Cond.code yX7_inLeastTerms cX7_inLeastTerms 11 (some .long)]
def wsX7_odds : List Cond := .code yX7_odds cX7_odds 5 (some .long) :: ((wsX7_odds_r1 ++ (wsX7_odds_r2 ++ wsX7_odds_r3)) ++ wsX70)
def wsX7_sheet : List Cond := .code yX7_sheet cX7_sheet 5 (some .int) :: ([.fieldLink RX7 55 "GalleryBirdsModel" "fault" "I", .fieldLink RX7 9 "GalleryBirdsModel" "sorts" "[I", .fieldLink RX7 13 "GalleryBirdsModel" "sheetLong" "[I", .fieldLink RX7 16 "GalleryBirdsModel" "cells" "[I", .methodLink RX7 74 yX7_isSheet, .static yX7_isSheet, .initialized RX7, .code yX7_isSheet cX7_isSheet 1 (some .boolean), .methodLink RX7 61 yX7_within, .static yX7_within, .code yX7_within cX7_within 3 (some .boolean), .methodLink RX7 78 yX7_isSort, .static yX7_isSort, .code yX7_isSort cX7_isSort 1 (some .boolean), .methodLink RX7 85 yX7_fails, .instanceMethod yX7_fails, .selects RX7 yX7_fails yX7_fails, .code yX7_fails cX7_fails 2 (some .int)] ++ wsX70)
def wsX7_lose : List Cond := .code yX7_lose cX7_lose 3 (some .int) :: ([.fieldLink RX7 9 "GalleryBirdsModel" "sorts" "[I", .methodLink RX7 74 yX7_isSheet, .static yX7_isSheet, .initialized RX7, .code yX7_isSheet cX7_isSheet 1 (some .boolean), .methodLink RX7 61 yX7_within, .static yX7_within, .code yX7_within cX7_within 3 (some .boolean)] ++ wsX70)
def wsX7_put : List Cond := .code yX7_put cX7_put 4 (some .int) :: ([.fieldLink RX7 55 "GalleryBirdsModel" "fault" "I", .fieldLink RX7 9 "GalleryBirdsModel" "sorts" "[I", .fieldLink RX7 13 "GalleryBirdsModel" "sheetLong" "[I", .fieldLink RX7 16 "GalleryBirdsModel" "cells" "[I", .methodLink RX7 74 yX7_isSheet, .static yX7_isSheet, .initialized RX7, .code yX7_isSheet cX7_isSheet 1 (some .boolean), .methodLink RX7 61 yX7_within, .static yX7_within, .code yX7_within cX7_within 3 (some .boolean), .methodLink RX7 85 yX7_fails, .instanceMethod yX7_fails, .selects RX7 yX7_fails yX7_fails, .code yX7_fails cX7_fails 2 (some .int)] ++ wsX70)
def wsX7_cell : List Cond := .code yX7_cell cX7_cell 4 (some .long) :: ([.fieldLink RX7 55 "GalleryBirdsModel" "fault" "I", .constantLong RX7 59 (-9223372036854775808), .fieldLink RX7 9 "GalleryBirdsModel" "sorts" "[I", .fieldLink RX7 13 "GalleryBirdsModel" "sheetLong" "[I", .fieldLink RX7 16 "GalleryBirdsModel" "cells" "[I", .methodLink RX7 74 yX7_isSheet, .static yX7_isSheet, .initialized RX7, .code yX7_isSheet cX7_isSheet 1 (some .boolean), .methodLink RX7 61 yX7_within, .static yX7_within, .code yX7_within cX7_within 3 (some .boolean), .methodLink RX7 78 yX7_isSort, .static yX7_isSort, .code yX7_isSort cX7_isSort 1 (some .boolean), .methodLink RX7 214 yX7_lost, .instanceMethod yX7_lost, .selects RX7 yX7_lost yX7_lost, .code yX7_lost cX7_lost 2 (some .long)] ++ wsX70)
def wsX7_copy : List Cond := .code yX7_copy cX7_copy 10 (some .int) :: ([.fieldLink RX7 55 "GalleryBirdsModel" "fault" "I", .fieldLink RX7 9 "GalleryBirdsModel" "sorts" "[I", .fieldLink RX7 13 "GalleryBirdsModel" "sheetLong" "[I", .fieldLink RX7 16 "GalleryBirdsModel" "cells" "[I", .methodLink RX7 74 yX7_isSheet, .static yX7_isSheet, .initialized RX7, .code yX7_isSheet cX7_isSheet 1 (some .boolean), .methodLink RX7 61 yX7_within, .static yX7_within, .code yX7_within cX7_within 3 (some .boolean), .methodLink RX7 85 yX7_fails, .instanceMethod yX7_fails, .selects RX7 yX7_fails yX7_fails, .code yX7_fails cX7_fails 2 (some .int)] ++ wsX70)
def wsX7_begins : List Cond := .code yX7_begins cX7_begins 2 none :: ([.fieldLink RX7 218 "GalleryBirdsModel" "trace" "I"] ++ wsX70)
def wsX7_tell : List Cond := .code yX7_tell cX7_tell 3 (some .int) :: ([.fieldLink RX7 28 "GalleryBirdsModel" "strength" "[I", .fieldLink RX7 22 "GalleryBirdsModel" "kind" "[I", .methodLink RX7 131 yX7_isGallery, .instanceMethod yX7_isGallery, .selects RX7 yX7_isGallery yX7_isGallery, .initialized RX7, .code yX7_isGallery cX7_isGallery 2 (some .boolean), .fieldLink RX7 65 "GalleryBirdsModel" "galleries" "I", .methodLink RX7 221 yX7_begins, .instanceMethod yX7_begins, .selects RX7 yX7_begins yX7_begins, .code yX7_begins cX7_begins 2 none, .fieldLink RX7 218 "GalleryBirdsModel" "trace" "I"] ++ wsX70)
def wsX7_sign : List Cond := .code yX7_sign cX7_sign 2 (some .int) :: ([.fieldLink RX7 22 "GalleryBirdsModel" "kind" "[I", .methodLink RX7 131 yX7_isGallery, .instanceMethod yX7_isGallery, .selects RX7 yX7_isGallery yX7_isGallery, .initialized RX7, .code yX7_isGallery cX7_isGallery 2 (some .boolean), .fieldLink RX7 65 "GalleryBirdsModel" "galleries" "I", .methodLink RX7 221 yX7_begins, .instanceMethod yX7_begins, .selects RX7 yX7_begins yX7_begins, .code yX7_begins cX7_begins 2 none, .fieldLink RX7 218 "GalleryBirdsModel" "trace" "I"] ++ wsX70)
def wsX7_as : List Cond := .code yX7_as cX7_as 3 (some .int) :: ([.fieldLink RX7 55 "GalleryBirdsModel" "fault" "I", .fieldLink RX7 22 "GalleryBirdsModel" "kind" "[I", .methodLink RX7 131 yX7_isGallery, .instanceMethod yX7_isGallery, .selects RX7 yX7_isGallery yX7_isGallery, .initialized RX7, .code yX7_isGallery cX7_isGallery 2 (some .boolean), .fieldLink RX7 65 "GalleryBirdsModel" "galleries" "I", .methodLink RX7 61 yX7_within, .static yX7_within, .code yX7_within cX7_within 3 (some .boolean), .methodLink RX7 85 yX7_fails, .instanceMethod yX7_fails, .selects RX7 yX7_fails yX7_fails, .code yX7_fails cX7_fails 2 (some .int)] ++ wsX70)
def wsX7_trace : List Cond := .code yX7_trace cX7_trace 1 (some .int) :: ([.fieldLink RX7 218 "GalleryBirdsModel" "trace" "I"] ++ wsX70)
def wsX7_fault : List Cond := .code yX7_fault cX7_fault 1 (some .int) :: ([.fieldLink RX7 55 "GalleryBirdsModel" "fault" "I"] ++ wsX70)
def wsX7_many : List Cond := .code yX7_many cX7_many 2 (some .int) :: ([.fieldLink RX7 65 "GalleryBirdsModel" "galleries" "I", .fieldLink RX7 68 "GalleryBirdsModel" "words" "I", .fieldLink RX7 104 "GalleryBirdsModel" "breaths" "I", .fieldLink RX7 107 "GalleryBirdsModel" "down" "I", .fieldLink RX7 110 "GalleryBirdsModel" "readings" "I", .methodLink RX7 160 yX7_size, .static yX7_size, .initialized RX7, .code yX7_size cX7_size 3 (some .int)] ++ wsX70)
def wsJ9_abs_0f7a4 : List Cond := .code yJ9_abs_0f7a4 cJ9_abs_0f7a4 1 (some .int) :: ([])
def wsJ9_max_7cf53 : List Cond := .code yJ9_max_7cf53 cJ9_max_7cf53 2 (some .int) :: ([])
def wsJ9_min_7cf53 : List Cond := .code yJ9_min_7cf53 cJ9_min_7cf53 2 (some .int) :: ([])
def wsL_law_r1 : List Cond := [Cond.classLink RL 7 RX6, Cond.instantiable RX6 11, Cond.initialized RX6, Cond.classLink RL 10 RX7, Cond.instantiable RX7 29, Cond.initialized RX7, Cond.methodLink RL 9 yX6_init, Cond.instanceMethod yX6_init, Cond.code yX6_init cX6_init 2 none, Cond.methodLink RX6 3 objectInit, Cond.instanceMethod objectInit, Cond.code objectInit ⟨#[0xb1]⟩ 1 none, Cond.classLink RX6 11 RX5, Cond.fieldLink RX6 13 "GalleryBirds" "sheets" "[LGalleryBirds$Sheet;", Cond.classLink RX6 17 RX2, Cond.instantiable RX2 6, Cond.initialized RX2, Cond.fieldLink RX6 20 "GalleryBirds" "pit" "LGalleryBirds$Pit;", Cond.classLink RX6 24 RX0, Cond.instantiable RX0 2, Cond.initialized RX0, Cond.fieldLink RX6 27 "GalleryBirds" "air" "LGalleryBirds$Air;", Cond.classLink RX6 31 RX3, Cond.instantiable RX3 4]
def wsL_law_r2 : List Cond := [Cond.initialized RX3, Cond.fieldLink RX6 34 "GalleryBirds" "readings" "LGalleryBirds$Readings;", Cond.classLink RX6 38 RX1, Cond.instantiable RX1 3, Cond.initialized RX1, Cond.fieldLink RX6 41 "GalleryBirds" "pairs" "LGalleryBirds$Pairs;", Cond.fieldLink RX6 45 "GalleryBirds" "trials" "[LGalleryBirds$Air;", Cond.arrayClass .int, Cond.fieldLink RX6 49 "GalleryBirds" "orderRow" "[I", Cond.classLink RX6 53 RX4, Cond.instantiable RX4 3, Cond.initialized RX4, Cond.fieldLink RX6 56 "GalleryBirds" "seating" "LGalleryBirds$Seating;", Cond.fieldLink RX6 60 "GalleryBirds" "breaths" "I", Cond.fieldLink RX6 64 "GalleryBirds" "trail" "I", Cond.fieldLink RX6 67 "GalleryBirds" "lastFault" "I", Cond.instantiable RX5 4, Cond.initialized RX5, Cond.instanceMethod yX2_init, Cond.code yX2_init cX2_init 1 none, Cond.methodLink RX2 3 objectInit, Cond.fieldLink RX2 9 "GalleryBirds$Pit" "galleries" "I", Cond.fieldLink RX2 15 "GalleryBirds$Pit" "words" "I", Cond.fieldLink RX2 18 "GalleryBirds$Pit" "bads" "[I"]
def wsL_law_r3 : List Cond := [Cond.fieldLink RX2 22 "GalleryBirds$Pit" "kinds" "[I", Cond.fieldLink RX2 25 "GalleryBirds$Pit" "strengths" "[I", Cond.fieldLink RX2 28 "GalleryBirds$Pit" "doors" "I", Cond.instanceMethod yX0_init, Cond.code yX0_init cX0_init 1 none, Cond.methodLink RX0 3 objectInit, Cond.fieldLink RX0 9 "GalleryBirds$Air" "fouls" "[I", Cond.fieldLink RX0 15 "GalleryBirds$Air" "down" "I", Cond.instanceMethod yX3_init, Cond.code yX3_init cX3_init 1 none, Cond.methodLink RX3 3 objectInit, Cond.fieldLink RX3 9 "GalleryBirds$Readings" "count" "I", Cond.fieldLink RX3 15 "GalleryBirds$Readings" "galleries" "[I", Cond.fieldLink RX3 19 "GalleryBirds$Readings" "fouls" "[I", Cond.fieldLink RX3 22 "GalleryBirds$Readings" "dropped" "[I", Cond.instanceMethod yX1_init, Cond.code yX1_init cX1_init 1 none, Cond.methodLink RX1 3 objectInit, Cond.fieldLink RX1 9 "GalleryBirds$Pairs" "count" "I", Cond.fieldLink RX1 15 "GalleryBirds$Pairs" "galleries" "[I", Cond.fieldLink RX1 19 "GalleryBirds$Pairs" "words" "[I", Cond.instanceMethod yX4_init, Cond.code yX4_init cX4_init 1 none, Cond.methodLink RX4 3 objectInit]
def wsL_law_r4 : List Cond := [Cond.fieldLink RX4 9 "GalleryBirds$Seating" "row" "[I", Cond.fieldLink RX4 15 "GalleryBirds$Seating" "best" "[I", Cond.fieldLink RX4 18 "GalleryBirds$Seating" "most" "I", Cond.instanceMethod yX5_init, Cond.code yX5_init cX5_init 1 none, Cond.methodLink RX5 3 objectInit, Cond.fieldLink RX5 9 "GalleryBirds$Sheet" "has" "Z", Cond.fieldLink RX5 15 "GalleryBirds$Sheet" "lane" "I", Cond.fieldLink RX5 19 "GalleryBirds$Sheet" "cells" "[I", Cond.fieldLink RX5 23 "GalleryBirds$Sheet" "count" "I", Cond.methodLink RL 12 yX7_init, Cond.instanceMethod yX7_init, Cond.code yX7_init cX7_init 1 none, Cond.methodLink RX7 1 objectInit, Cond.fieldLink RX7 9 "GalleryBirdsModel" "sorts" "[I", Cond.fieldLink RX7 13 "GalleryBirdsModel" "sheetLong" "[I", Cond.fieldLink RX7 16 "GalleryBirdsModel" "cells" "[I", Cond.fieldLink RX7 19 "GalleryBirdsModel" "badOf" "[I", Cond.fieldLink RX7 22 "GalleryBirdsModel" "kind" "[I", Cond.fieldLink RX7 25 "GalleryBirdsModel" "foulNow" "[I", Cond.fieldLink RX7 28 "GalleryBirdsModel" "strength" "[I", Cond.fieldLink RX7 31 "GalleryBirdsModel" "readBad" "[I", Cond.fieldLink RX7 34 "GalleryBirdsModel" "read" "[I", Cond.fieldLink RX7 37 "GalleryBirdsModel" "keptFoul" "[I"]
def wsL_law_r5 : List Cond := [Cond.fieldLink RX7 40 "GalleryBirdsModel" "row" "[I", Cond.fieldLink RX7 43 "GalleryBirdsModel" "perched" "[I", Cond.fieldLink RX7 46 "GalleryBirdsModel" "readWhere" "[I", Cond.fieldLink RX7 49 "GalleryBirdsModel" "readFoul" "[I", Cond.fieldLink RX7 52 "GalleryBirdsModel" "readDropped" "[I", Cond.methodLink RL 13 yX6_mine, Cond.instanceMethod yX6_mine, Cond.selects RX6 yX6_mine yX6_mine, Cond.code yX6_mine cX6_mine 8 (some .int), Cond.fieldLink RX6 86 "GalleryBirds$Sheet" "cells" "[I", Cond.fieldLink RX6 97 "GalleryBirds$Pit" "galleries" "I", Cond.methodLink RX6 71 yX6_isSheet, Cond.static yX6_isSheet, Cond.code yX6_isSheet cX6_isSheet 1 (some .boolean), Cond.methodLink RX6 75 yX6_isLane, Cond.static yX6_isLane, Cond.code yX6_isLane cX6_isLane 1 (some .boolean), Cond.methodLink RX6 78 yX5_faultOfCells, Cond.instanceMethod yX5_faultOfCells, Cond.selects RX5 yX5_faultOfCells yX5_faultOfCells, Cond.code yX5_faultOfCells cX5_faultOfCells 4 (some .int), Cond.methodLink RX5 26 yX5_hasCells, Cond.instanceMethod yX5_hasCells, Cond.selects RX5 yX5_hasCells yX5_hasCells]
def wsL_law_r6 : List Cond := [Cond.code yX5_hasCells cX5_hasCells 3 (some .boolean), Cond.methodLink RX6 82 yX6_faulted, Cond.instanceMethod yX6_faulted, Cond.selects RX6 yX6_faulted yX6_faulted, Cond.code yX6_faulted cX6_faulted 2 (some .int), Cond.methodLink RX6 89 yX6_firstFaultOfText, Cond.static yX6_firstFaultOfText, Cond.code yX6_firstFaultOfText cX6_firstFaultOfText 7 (some .int), Cond.methodLink RX6 263 yX6_wordsOfText, Cond.static yX6_wordsOfText, Cond.code yX6_wordsOfText cX6_wordsOfText 4 (some .int), Cond.methodLink RX6 269 yX6_isDigit, Cond.static yX6_isDigit, Cond.code yX6_isDigit cX6_isDigit 3 (some .boolean), Cond.methodLink RX6 266 yX6_fitsGallery, Cond.static yX6_fitsGallery, Cond.code yX6_fitsGallery cX6_fitsGallery 2 (some .boolean), Cond.methodLink RX6 273 yX6_kindOfLetter, Cond.static yX6_kindOfLetter, Cond.code yX6_kindOfLetter cX6_kindOfLetter 1 (some .int), Cond.methodLink RX6 93 yX6_makeAnew, Cond.instanceMethod yX6_makeAnew, Cond.selects RX6 yX6_makeAnew yX6_makeAnew, Cond.code yX6_makeAnew cX6_makeAnew 7 none]
def wsL_law_r7 : List Cond := [Cond.fieldLink RX6 196 "GalleryBirds$Pit" "words" "I", Cond.fieldLink RX6 127 "GalleryBirds$Pit" "bads" "[I", Cond.methodLink RX6 276 Lib.Math.min.name, Cond.static Lib.Math.min.name, Cond.initialized "java/lang/Math", Cond.code Lib.Math.min.name Lib.Math.min.code 2 (some .int), Cond.fieldLink RX6 121 "GalleryBirds$Pit" "doors" "I", Cond.fieldLink RX6 103 "GalleryBirds$Pit" "kinds" "[I", Cond.fieldLink RX6 106 "GalleryBirds$Air" "fouls" "[I", Cond.fieldLink RX6 109 "GalleryBirds$Pit" "strengths" "[I", Cond.fieldLink RX6 115 "GalleryBirds$Air" "down" "I", Cond.fieldLink RX6 206 "GalleryBirds$Readings" "count" "I", Cond.methodLink RX6 118 yX6_isDoor, Cond.instanceMethod yX6_isDoor, Cond.selects RX6 yX6_isDoor yX6_isDoor, Cond.code yX6_isDoor cX6_isDoor 2 (some .boolean), Cond.methodLink RL 17 yX7_mine, Cond.instanceMethod yX7_mine, Cond.selects RX7 yX7_mine yX7_mine, Cond.code yX7_mine cX7_mine 7 (some .int), Cond.fieldLink RX7 55 "GalleryBirdsModel" "fault" "I", Cond.fieldLink RX7 71 "GalleryBirdsModel" "at" "I", Cond.fieldLink RX7 65 "GalleryBirdsModel" "galleries" "I", Cond.methodLink RX7 74 yX7_isSheet]
def wsL_law_r8 : List Cond := [Cond.static yX7_isSheet, Cond.code yX7_isSheet cX7_isSheet 1 (some .boolean), Cond.methodLink RX7 61 yX7_within, Cond.static yX7_within, Cond.code yX7_within cX7_within 3 (some .boolean), Cond.methodLink RX7 78 yX7_isSort, Cond.static yX7_isSort, Cond.code yX7_isSort cX7_isSort 1 (some .boolean), Cond.methodLink RX7 81 yX7_against, Cond.instanceMethod yX7_against, Cond.selects RX7 yX7_against yX7_against, Cond.code yX7_against cX7_against 5 (some .int), Cond.methodLink RX7 85 yX7_fails, Cond.instanceMethod yX7_fails, Cond.selects RX7 yX7_fails yX7_fails, Cond.code yX7_fails cX7_fails 2 (some .int), Cond.methodLink RX7 89 yX7_readMine, Cond.instanceMethod yX7_readMine, Cond.selects RX7 yX7_readMine yX7_readMine, Cond.code yX7_readMine cX7_readMine 2 (some .boolean), Cond.fieldLink RX7 98 "GalleryBirdsModel" "readGalleries" "I", Cond.methodLink RX7 113 yX7_isSign, Cond.instanceMethod yX7_isSign, Cond.selects RX7 yX7_isSign yX7_isSign]
def wsL_law_r9 : List Cond := [Cond.code yX7_isSign cX7_isSign 3 (some .boolean), Cond.methodLink RX7 117 yX7_readTheWords, Cond.instanceMethod yX7_readTheWords, Cond.selects RX7 yX7_readTheWords yX7_readTheWords, Cond.code yX7_readTheWords cX7_readTheWords 3 (some .boolean), Cond.fieldLink RX7 95 "GalleryBirdsModel" "readWords" "I", Cond.methodLink RX7 123 yX7_digit, Cond.instanceMethod yX7_digit, Cond.selects RX7 yX7_digit yX7_digit, Cond.code yX7_digit cX7_digit 4 (some .int), Cond.methodLink RX7 120 yX7_readGallery, Cond.instanceMethod yX7_readGallery, Cond.selects RX7 yX7_readGallery yX7_readGallery, Cond.code yX7_readGallery cX7_readGallery 4 (some .boolean), Cond.methodLink RX7 92 yX7_takeMine, Cond.instanceMethod yX7_takeMine, Cond.selects RX7 yX7_takeMine yX7_takeMine, Cond.code yX7_takeMine cX7_takeMine 2 none, Cond.fieldLink RX7 68 "GalleryBirdsModel" "words" "I", Cond.fieldLink RX7 101 "GalleryBirdsModel" "doors" "I", Cond.fieldLink RX7 104 "GalleryBirdsModel" "breaths" "I", Cond.fieldLink RX7 107 "GalleryBirdsModel" "down" "I", Cond.fieldLink RX7 110 "GalleryBirdsModel" "readings" "I", Cond.methodLink RL 18 yX6_ofGallery]
def wsL_law_r10 : List Cond := [Cond.instanceMethod yX6_ofGallery, Cond.selects RX6 yX6_ofGallery yX6_ofGallery, Cond.code yX6_ofGallery cX6_ofGallery 3 (some .int), Cond.methodLink RX6 100 yX6_isGallery, Cond.instanceMethod yX6_isGallery, Cond.selects RX6 yX6_isGallery yX6_isGallery, Cond.code yX6_isGallery cX6_isGallery 2 (some .boolean), Cond.methodLink RX6 112 yX2_bears, Cond.instanceMethod yX2_bears, Cond.selects RX2 yX2_bears yX2_bears, Cond.code yX2_bears cX2_bears 2 (some .int), Cond.static yX6_bearing, Cond.code yX6_bearing cX6_bearing 2 (some .int), Cond.methodLink RL 22 yX7_ofGallery, Cond.instanceMethod yX7_ofGallery, Cond.selects RX7 yX7_ofGallery yX7_ofGallery, Cond.code yX7_ofGallery cX7_ofGallery 3 (some .int), Cond.methodLink RX7 131 yX7_isGallery, Cond.instanceMethod yX7_isGallery, Cond.selects RX7 yX7_isGallery yX7_isGallery, Cond.code yX7_isGallery cX7_isGallery 2 (some .boolean), Cond.methodLink RX7 134 yX7_bearsOf, Cond.instanceMethod yX7_bearsOf, Cond.selects RX7 yX7_bearsOf yX7_bearsOf]
def wsL_law_r11 : List Cond := [Cond.code yX7_bearsOf cX7_bearsOf 2 (some .int), Cond.methodLink RX7 127 yX7_bearsBy, Cond.static yX7_bearsBy, Cond.code yX7_bearsBy cX7_bearsBy 2 (some .int), Cond.methodLink RX7 137 yX7_isDoor, Cond.instanceMethod yX7_isDoor, Cond.selects RX7 yX7_isDoor yX7_isDoor, Cond.code yX7_isDoor cX7_isDoor 2 (some .boolean), Cond.methodLink RL 23 yX6_bad, Cond.instanceMethod yX6_bad, Cond.selects RX6 yX6_bad yX6_bad, Cond.code yX6_bad cX6_bad 2 (some .int), Cond.methodLink RX6 124 yX6_isWord, Cond.instanceMethod yX6_isWord, Cond.selects RX6 yX6_isWord yX6_isWord, Cond.code yX6_isWord cX6_isWord 2 (some .boolean), Cond.methodLink RL 27 yX7_bad, Cond.instanceMethod yX7_bad, Cond.selects RX7 yX7_bad yX7_bad, Cond.code yX7_bad cX7_bad 2 (some .int), Cond.methodLink RX7 140 yX7_isWord, Cond.instanceMethod yX7_isWord, Cond.selects RX7 yX7_isWord yX7_isWord, Cond.code yX7_isWord cX7_isWord 2 (some .boolean)]
def wsL_law_r12 : List Cond := [Cond.methodLink RL 28 yX6_foul, Cond.instanceMethod yX6_foul, Cond.selects RX6 yX6_foul yX6_foul, Cond.code yX6_foul cX6_foul 4 (some .int), Cond.methodLink RX6 130 yX6_isFoul, Cond.static yX6_isFoul, Cond.code yX6_isFoul cX6_isFoul 1 (some .boolean), Cond.methodLink RL 31 yX7_foul, Cond.instanceMethod yX7_foul, Cond.selects RX7 yX7_foul yX7_foul, Cond.code yX7_foul cX7_foul 4 (some .int), Cond.methodLink RL 32 yX6_breed, Cond.instanceMethod yX6_breed, Cond.selects RX6 yX6_breed yX6_breed, Cond.code yX6_breed cX6_breed 4 (some .int), Cond.methodLink RL 35 yX7_breed, Cond.instanceMethod yX7_breed, Cond.selects RX7 yX7_breed yX7_breed, Cond.code yX7_breed cX7_breed 4 (some .int), Cond.methodLink RL 36 yX6_door, Cond.instanceMethod yX6_door, Cond.selects RX6 yX6_door yX6_door, Cond.code yX6_door cX6_door 4 (some .int), Cond.methodLink RL 39 yX7_door]
def wsL_law_r13 : List Cond := [Cond.instanceMethod yX7_door, Cond.selects RX7 yX7_door yX7_door, Cond.code yX7_door cX7_door 4 (some .int), Cond.methodLink RL 40 yX6_say, Cond.instanceMethod yX6_say, Cond.selects RX6 yX6_say yX6_say, Cond.code yX6_say cX6_say 3 (some .int), Cond.methodLink RX6 133 yX2_breathe, Cond.instanceMethod yX2_breathe, Cond.selects RX2 yX2_breathe yX2_breathe, Cond.code yX2_breathe cX2_breathe 5 (some .int), Cond.fieldLink RX2 35 "GalleryBirds$Air" "fouls" "[I", Cond.methodLink RX2 40 Lib.Math.min.name, Cond.methodLink RX2 45 Lib.Math.max.name, Cond.static Lib.Math.max.name, Cond.code Lib.Math.max.name Lib.Math.max.code 2 (some .int), Cond.methodLink RX2 48 yX2_breatheHushed, Cond.instanceMethod yX2_breatheHushed, Cond.selects RX2 yX2_breatheHushed yX2_breatheHushed, Cond.code yX2_breatheHushed cX2_breatheHushed 3 (some .int), Cond.methodLink RX2 52 yX2_passAir, Cond.instanceMethod yX2_passAir, Cond.selects RX2 yX2_passAir yX2_passAir, Cond.code yX2_passAir cX2_passAir 7 (some .int)]
def wsL_law_r14 : List Cond := [Cond.methodLink RX2 59 Lib.Math.abs.name, Cond.static Lib.Math.abs.name, Cond.code Lib.Math.abs.name Lib.Math.abs.code 1 (some .int), Cond.methodLink RX2 55 yX2_dropBirds, Cond.instanceMethod yX2_dropBirds, Cond.selects RX2 yX2_dropBirds yX2_dropBirds, Cond.code yX2_dropBirds cX2_dropBirds 4 (some .int), Cond.fieldLink RX2 70 "GalleryBirds$Air" "down" "I", Cond.methodLink RX2 63 yX0_isDown, Cond.instanceMethod yX0_isDown, Cond.selects RX0 yX0_isDown yX0_isDown, Cond.code yX0_isDown cX0_isDown 2 (some .boolean), Cond.methodLink RX2 67 yX2_bears, Cond.methodLink RL 43 yX7_say, Cond.instanceMethod yX7_say, Cond.selects RX7 yX7_say yX7_say, Cond.code yX7_say cX7_say 3 (some .int), Cond.methodLink RX7 157 yX7_breathe, Cond.instanceMethod yX7_breathe, Cond.selects RX7 yX7_breathe yX7_breathe, Cond.code yX7_breathe cX7_breathe 3 (some .int), Cond.methodLink RX7 146 yX7_sayIn, Cond.instanceMethod yX7_sayIn, Cond.selects RX7 yX7_sayIn yX7_sayIn]
def wsL_law_r15 : List Cond := [Cond.code yX7_sayIn cX7_sayIn 4 none, Cond.methodLink RX7 150 yX7_pass, Cond.instanceMethod yX7_pass, Cond.selects RX7 yX7_pass yX7_pass, Cond.code yX7_pass cX7_pass 5 (some .int), Cond.methodLink RX7 143 yX7_isOf, Cond.static yX7_isOf, Cond.code yX7_isOf cX7_isOf 2 (some .boolean), Cond.methodLink RX7 154 yX7_drop, Cond.instanceMethod yX7_drop, Cond.selects RX7 yX7_drop yX7_drop, Cond.code yX7_drop cX7_drop 3 (some .int), Cond.methodLink RL 44 yX6_hush, Cond.instanceMethod yX6_hush, Cond.selects RX6 yX6_hush yX6_hush, Cond.code yX6_hush cX6_hush 4 (some .int), Cond.methodLink RX6 137 yX6_hasMine, Cond.instanceMethod yX6_hasMine, Cond.selects RX6 yX6_hasMine yX6_hasMine, Cond.code yX6_hasMine cX6_hasMine 1 (some .boolean), Cond.methodLink RX6 141 yX2_breatheHushed, Cond.methodLink RL 47 yX7_hush, Cond.instanceMethod yX7_hush, Cond.selects RX7 yX7_hush yX7_hush]
def wsL_law_r16 : List Cond := [Cond.code yX7_hush cX7_hush 4 (some .int), Cond.methodLink RL 48 yX6_blow, Cond.instanceMethod yX6_blow, Cond.selects RX6 yX6_blow yX6_blow, Cond.code yX6_blow cX6_blow 2 (some .int), Cond.methodLink RX6 145 yX0_isDown, Cond.methodLink RX6 148 yJ6_bitCount_0f7a4, Cond.static yJ6_bitCount_0f7a4, Cond.initialized RJ6, Cond.code yJ6_bitCount_0f7a4 cJ6_bitCount_0f7a4 1 (some .int), Cond.constant RJ6 265 (1431655765), Cond.constant RJ6 266 (858993459), Cond.constant RJ6 267 (252645135), Cond.methodLink RL 51 yX7_blow, Cond.instanceMethod yX7_blow, Cond.selects RX7 yX7_blow yX7_blow, Cond.code yX7_blow cX7_blow 2 (some .int), Cond.methodLink RX7 160 yX7_size, Cond.static yX7_size, Cond.code yX7_size cX7_size 3 (some .int), Cond.methodLink RL 52 yX6_shift, Cond.instanceMethod yX6_shift, Cond.selects RX6 yX6_shift yX6_shift, Cond.code yX6_shift cX6_shift 12 (some .int)]
def wsL_law_r17 : List Cond := [Cond.fieldLink RX6 164 "GalleryBirds$Pairs" "count" "I", Cond.fieldLink RX6 167 "GalleryBirds$Pairs" "galleries" "[I", Cond.fieldLink RX6 169 "GalleryBirds$Pairs" "words" "[I", Cond.methodLink RX6 153 yX6_isOfShift, Cond.static yX6_isOfShift, Cond.code yX6_isOfShift cX6_isOfShift 1 (some .boolean), Cond.methodLink RX6 156 yX6_takePairs, Cond.instanceMethod yX6_takePairs, Cond.selects RX6 yX6_takePairs yX6_takePairs, Cond.code yX6_takePairs cX6_takePairs 9 (some .int), Cond.methodLink RX6 160 yX0_becomeLike, Cond.instanceMethod yX0_becomeLike, Cond.selects RX0 yX0_becomeLike yX0_becomeLike, Cond.code yX0_becomeLike cX0_becomeLike 2 none, Cond.methodLink RX0 19 arraycopyName, Cond.native arraycopyName, Cond.static arraycopyName, Cond.initialized "java/lang/System", Cond.methodLink RX6 172 yX6_foulTogether, Cond.instanceMethod yX6_foulTogether, Cond.selects RX6 yX6_foulTogether yX6_foulTogether, Cond.code yX6_foulTogether cX6_foulTogether 4 (some .int), Cond.methodLink RL 56 yX7_shift, Cond.instanceMethod yX7_shift]
def wsL_law_r18 : List Cond := [Cond.selects RX7 yX7_shift yX7_shift, Cond.code yX7_shift cX7_shift 8 (some .int), Cond.methodLink RX7 175 yX7_refuses, Cond.instanceMethod yX7_refuses, Cond.selects RX7 yX7_refuses yX7_refuses, Cond.code yX7_refuses cX7_refuses 8 (some .int), Cond.methodLink RX7 172 yX7_refusesPairs, Cond.instanceMethod yX7_refusesPairs, Cond.selects RX7 yX7_refusesPairs yX7_refusesPairs, Cond.code yX7_refusesPairs cX7_refusesPairs 4 (some .int), Cond.methodLink RX7 179 yX7_keep, Cond.instanceMethod yX7_keep, Cond.selects RX7 yX7_keep yX7_keep, Cond.code yX7_keep cX7_keep 2 none, Cond.fieldLink RX7 163 "GalleryBirdsModel" "keptDown" "I", Cond.methodLink RX7 182 yX7_goShift, Cond.instanceMethod yX7_goShift, Cond.selects RX7 yX7_goShift yX7_goShift, Cond.code yX7_goShift cX7_goShift 5 none, Cond.fieldLink RX7 166 "GalleryBirdsModel" "dropped" "I", Cond.fieldLink RX7 169 "GalleryBirdsModel" "firstWrong" "I", Cond.methodLink RX7 185 yX7_tellShift, Cond.instanceMethod yX7_tellShift, Cond.selects RX7 yX7_tellShift yX7_tellShift]
def wsL_law_r19 : List Cond := [Cond.code yX7_tellShift cX7_tellShift 4 (some .int), Cond.methodLink RX7 188 yX7_putBack, Cond.instanceMethod yX7_putBack, Cond.selects RX7 yX7_putBack yX7_putBack, Cond.code yX7_putBack cX7_putBack 2 none, Cond.methodLink RL 57 yX6_order, Cond.instanceMethod yX6_order, Cond.selects RX6 yX6_order yX6_order, Cond.code yX6_order cX6_order 7 (some .int), Cond.methodLink RX6 176 yX6_endsOrder, Cond.static yX6_endsOrder, Cond.code yX6_endsOrder cX6_endsOrder 8 (some .boolean), Cond.methodLink RL 60 yX7_order, Cond.instanceMethod yX7_order, Cond.selects RX7 yX7_order yX7_order, Cond.code yX7_order cX7_order 8 (some .int), Cond.methodLink RX7 191 yX7_ordersOf, Cond.static yX7_ordersOf, Cond.code yX7_ordersOf cX7_ordersOf 3 (some .int), Cond.methodLink RX7 194 yX7_orderOf, Cond.instanceMethod yX7_orderOf, Cond.selects RX7 yX7_orderOf yX7_orderOf, Cond.code yX7_orderOf cX7_orderOf 9 none, Cond.methodLink RX7 197 yX7_isQuiet]
def wsL_law_r20 : List Cond := [Cond.instanceMethod yX7_isQuiet, Cond.selects RX7 yX7_isQuiet yX7_isQuiet, Cond.code yX7_isQuiet cX7_isQuiet 5 (some .boolean), Cond.methodLink RL 61 yX6_shut, Cond.instanceMethod yX6_shut, Cond.selects RX6 yX6_shut yX6_shut, Cond.code yX6_shut cX6_shut 11 (some .int), Cond.methodLink RX6 180 yX6_dropsWithDoors, Cond.instanceMethod yX6_dropsWithDoors, Cond.selects RX6 yX6_dropsWithDoors yX6_dropsWithDoors, Cond.code yX6_dropsWithDoors cX6_dropsWithDoors 5 (some .int), Cond.methodLink RL 64 yX7_shut, Cond.instanceMethod yX7_shut, Cond.selects RX7 yX7_shut yX7_shut, Cond.code yX7_shut cX7_shut 11 (some .int), Cond.methodLink RL 65 yX6_rests, Cond.instanceMethod yX6_rests, Cond.selects RX6 yX6_rests yX6_rests, Cond.code yX6_rests cX6_rests 3 (some .int), Cond.methodLink RX6 183 yX2_passAir, Cond.methodLink RL 69 yX7_rests, Cond.instanceMethod yX7_rests, Cond.selects RX7 yX7_rests yX7_rests, Cond.code yX7_rests cX7_rests 2 (some .int)]
def wsL_law_r21 : List Cond := [Cond.methodLink RL 70 yX6_clears, Cond.instanceMethod yX6_clears, Cond.selects RX6 yX6_clears yX6_clears, Cond.code yX6_clears cX6_clears 5 (some .int), Cond.methodLink RL 73 yX7_clears, Cond.instanceMethod yX7_clears, Cond.selects RX7 yX7_clears yX7_clears, Cond.code yX7_clears cX7_clears 4 (some .int), Cond.methodLink RL 74 yX6_perches, Cond.instanceMethod yX6_perches, Cond.selects RX6 yX6_perches yX6_perches, Cond.code yX6_perches cX6_perches 2 (some .int), Cond.fieldLink RX6 186 "GalleryBirds$Seating" "most" "I", Cond.fieldLink RX6 193 "GalleryBirds$Seating" "best" "[I", Cond.methodLink RX6 189 yX6_seatFrom, Cond.static yX6_seatFrom, Cond.code yX6_seatFrom cX6_seatFrom 8 none, Cond.fieldLink RX6 285 "GalleryBirds$Seating" "row" "[I", Cond.methodLink RX6 281 yX4_keep, Cond.instanceMethod yX4_keep, Cond.selects RX4 yX4_keep yX4_keep, Cond.code yX4_keep cX4_keep 2 none, Cond.methodLink RX4 22 arraycopyName, Cond.methodLink RL 77 yX7_perches]
def wsL_law_r22 : List Cond := [Cond.instanceMethod yX7_perches, Cond.selects RX7 yX7_perches yX7_perches, Cond.code yX7_perches cX7_perches 3 (some .int), Cond.methodLink RX7 200 yX7_findPerches, Cond.instanceMethod yX7_findPerches, Cond.selects RX7 yX7_findPerches yX7_findPerches, Cond.code yX7_findPerches cX7_findPerches 5 (some .int), Cond.methodLink RL 78 yX6_found, Cond.instanceMethod yX6_found, Cond.selects RX6 yX6_found yX6_found, Cond.code yX6_found cX6_found 10 (some .int), Cond.methodLink RX6 198 yX6_airBehind, Cond.instanceMethod yX6_airBehind, Cond.selects RX6 yX6_airBehind yX6_airBehind, Cond.code yX6_airBehind cX6_airBehind 4 (some (.object "GalleryBirds$Air")), Cond.methodLink RX6 202 yX6_isAsTold, Cond.instanceMethod yX6_isAsTold, Cond.selects RX6 yX6_isAsTold yX6_isAsTold, Cond.code yX6_isAsTold cX6_isAsTold 5 (some .boolean), Cond.methodLink RL 81 yX7_found, Cond.instanceMethod yX7_found, Cond.selects RX7 yX7_found yX7_found, Cond.code yX7_found cX7_found 8 (some .int), Cond.methodLink RX7 203 yX7_isFound]
def wsL_law_r23 : List Cond := [Cond.instanceMethod yX7_isFound, Cond.selects RX7 yX7_isFound yX7_isFound, Cond.code yX7_isFound cX7_isFound 6 (some .boolean), Cond.methodLink RL 82 yX6_reading, Cond.instanceMethod yX6_reading, Cond.selects RX6 yX6_reading yX6_reading, Cond.code yX6_reading cX6_reading 4 (some .int), Cond.methodLink RX6 207 yX3_write, Cond.instanceMethod yX3_write, Cond.selects RX3 yX3_write yX3_write, Cond.code yX3_write cX3_write 5 (some .int), Cond.methodLink RL 86 yX7_reading, Cond.instanceMethod yX7_reading, Cond.selects RX7 yX7_reading yX7_reading, Cond.code yX7_reading cX7_reading 4 (some .int), Cond.methodLink RL 87 yX6_back, Cond.instanceMethod yX6_back, Cond.selects RX6 yX6_back yX6_back, Cond.code yX6_back cX6_back 2 (some .int), Cond.methodLink RL 90 yX7_back, Cond.instanceMethod yX7_back, Cond.selects RX7 yX7_back yX7_back, Cond.code yX7_back cX7_back 2 (some .int), Cond.methodLink RL 91 yX6_strengths]
def wsL_law_r24 : List Cond := [Cond.instanceMethod yX6_strengths, Cond.selects RX6 yX6_strengths yX6_strengths, Cond.code yX6_strengths cX6_strengths 4 (some .int), Cond.methodLink RX6 210 yX6_bearing, Cond.methodLink RX6 214 yX3_areSo, Cond.instanceMethod yX3_areSo, Cond.selects RX3 yX3_areSo yX3_areSo, Cond.code yX3_areSo cX3_areSo 7 (some .boolean), Cond.methodLink RX3 25 yX2_bears, Cond.methodLink RL 94 yX7_strengths, Cond.instanceMethod yX7_strengths, Cond.selects RX7 yX7_strengths yX7_strengths, Cond.code yX7_strengths cX7_strengths 5 (some .int), Cond.methodLink RX7 206 yX7_areSo, Cond.instanceMethod yX7_areSo, Cond.selects RX7 yX7_areSo yX7_areSo, Cond.code yX7_areSo cX7_areSo 3 (some .boolean), Cond.methodLink RL 95 yX6_kinds, Cond.instanceMethod yX6_kinds, Cond.selects RX6 yX6_kinds yX6_kinds, Cond.code yX6_kinds cX6_kinds 4 (some .int), Cond.methodLink RL 98 yX7_kinds, Cond.instanceMethod yX7_kinds, Cond.selects RX7 yX7_kinds yX7_kinds]
def wsL_law_r25 : List Cond := [Cond.code yX7_kinds cX7_kinds 5 (some .int), Cond.methodLink RL 99 yX6_odds, Cond.instanceMethod yX6_odds, Cond.selects RX6 yX6_odds yX6_odds, Cond.code yX6_odds cX6_odds 6 (some .long), Cond.constantLong RX6 218 (-9223372036854775808), Cond.methodLink RX6 220 yX6_commonDivisor, Cond.static yX6_commonDivisor, Cond.code yX6_commonDivisor cX6_commonDivisor 3 (some .int), Cond.methodLink RL 103 yX7_odds, Cond.instanceMethod yX7_odds, Cond.selects RX7 yX7_odds yX7_odds, Cond.code yX7_odds cX7_odds 5 (some .long), Cond.constantLong RX7 59 (-9223372036854775808), Cond.methodLink RX7 210 yX7_inLeastTerms, Cond.static yX7_inLeastTerms, Cond.code yX7_inLeastTerms cX7_inLeastTerms 11 (some .long), Cond.methodLink RL 104 yX6_sheet, Cond.instanceMethod yX6_sheet, Cond.selects RX6 yX6_sheet yX6_sheet, Cond.code yX6_sheet cX6_sheet 4 (some .int), Cond.methodLink RX6 223 yX5_begin, Cond.instanceMethod yX5_begin, Cond.selects RX5 yX5_begin yX5_begin]
def wsL_law_r26 : List Cond := [Cond.code yX5_begin cX5_begin 4 none, Cond.methodLink RL 107 yX7_sheet, Cond.instanceMethod yX7_sheet, Cond.selects RX7 yX7_sheet yX7_sheet, Cond.code yX7_sheet cX7_sheet 5 (some .int), Cond.methodLink RL 108 yX6_lose, Cond.instanceMethod yX6_lose, Cond.selects RX6 yX6_lose yX6_lose, Cond.code yX6_lose cX6_lose 3 (some .int), Cond.fieldLink RX6 227 "GalleryBirds$Sheet" "has" "Z", Cond.methodLink RL 111 yX7_lose, Cond.instanceMethod yX7_lose, Cond.selects RX7 yX7_lose yX7_lose, Cond.code yX7_lose cX7_lose 3 (some .int), Cond.methodLink RL 112 yX6_put, Cond.instanceMethod yX6_put, Cond.selects RX6 yX6_put yX6_put, Cond.code yX6_put cX6_put 6 (some .int), Cond.fieldLink RX6 231 "GalleryBirds$Sheet" "lane" "I", Cond.methodLink RX6 234 yX6_cutToLane, Cond.static yX6_cutToLane, Cond.code yX6_cutToLane cX6_cutToLane 2 (some .int), Cond.methodLink RL 115 yX7_put, Cond.instanceMethod yX7_put]
def wsL_law_r27 : List Cond := [Cond.selects RX7 yX7_put yX7_put, Cond.code yX7_put cX7_put 4 (some .int), Cond.methodLink RL 116 yX6_cell, Cond.instanceMethod yX6_cell, Cond.selects RX6 yX6_cell yX6_cell, Cond.code yX6_cell cX6_cell 5 (some .long), Cond.methodLink RL 120 yX7_cell, Cond.instanceMethod yX7_cell, Cond.selects RX7 yX7_cell yX7_cell, Cond.code yX7_cell cX7_cell 4 (some .long), Cond.methodLink RX7 214 yX7_lost, Cond.instanceMethod yX7_lost, Cond.selects RX7 yX7_lost yX7_lost, Cond.code yX7_lost cX7_lost 2 (some .long), Cond.methodLink RL 121 yX6_copy, Cond.instanceMethod yX6_copy, Cond.selects RX6 yX6_copy yX6_copy, Cond.code yX6_copy cX6_copy 8 (some .int), Cond.methodLink RX6 241 arraycopyName, Cond.methodLink RX6 237 yX5_hasCells, Cond.methodLink RL 124 yX7_copy, Cond.instanceMethod yX7_copy, Cond.selects RX7 yX7_copy yX7_copy, Cond.code yX7_copy cX7_copy 10 (some .int)]
def wsL_law_r28 : List Cond := [Cond.methodLink RL 125 yX6_tell, Cond.instanceMethod yX6_tell, Cond.selects RX6 yX6_tell yX6_tell, Cond.code yX6_tell cX6_tell 2 (some .int), Cond.methodLink RX6 247 yX6_brightBody, Cond.instanceMethod yX6_brightBody, Cond.selects RX6 yX6_brightBody yX6_brightBody, Cond.code yX6_brightBody cX6_brightBody 2 (some .int), Cond.methodLink RX6 288 yX6_leave, Cond.instanceMethod yX6_leave, Cond.selects RX6 yX6_leave yX6_leave, Cond.code yX6_leave cX6_leave 2 none, Cond.methodLink RX6 250 yX6_greenBody, Cond.instanceMethod yX6_greenBody, Cond.selects RX6 yX6_greenBody yX6_greenBody, Cond.code yX6_greenBody cX6_greenBody 2 (some .int), Cond.methodLink RX6 253 yX6_greyBody, Cond.instanceMethod yX6_greyBody, Cond.selects RX6 yX6_greyBody yX6_greyBody, Cond.code yX6_greyBody cX6_greyBody 2 (some .int), Cond.methodLink RL 128 yX7_tell, Cond.instanceMethod yX7_tell, Cond.selects RX7 yX7_tell yX7_tell, Cond.code yX7_tell cX7_tell 3 (some .int)]
def wsL_law_r29 : List Cond := [Cond.methodLink RX7 221 yX7_begins, Cond.instanceMethod yX7_begins, Cond.selects RX7 yX7_begins yX7_begins, Cond.code yX7_begins cX7_begins 2 none, Cond.fieldLink RX7 218 "GalleryBirdsModel" "trace" "I", Cond.methodLink RL 129 yX6_sign, Cond.instanceMethod yX6_sign, Cond.selects RX6 yX6_sign yX6_sign, Cond.code yX6_sign cX6_sign 2 (some .int), Cond.methodLink RX6 256 yX6_brightSignature, Cond.instanceMethod yX6_brightSignature, Cond.selects RX6 yX6_brightSignature yX6_brightSignature, Cond.code yX6_brightSignature cX6_brightSignature 1 (some .int), Cond.methodLink RX6 260 yX6_lentSignature, Cond.instanceMethod yX6_lentSignature, Cond.selects RX6 yX6_lentSignature yX6_lentSignature, Cond.code yX6_lentSignature cX6_lentSignature 2 (some .int), Cond.methodLink RL 132 yX7_sign, Cond.instanceMethod yX7_sign, Cond.selects RX7 yX7_sign yX7_sign, Cond.code yX7_sign cX7_sign 2 (some .int), Cond.methodLink RL 133 yX6_as, Cond.instanceMethod yX6_as, Cond.selects RX6 yX6_as yX6_as]
def wsL_law_r30 : List Cond := [Cond.code yX6_as cX6_as 3 (some .int), Cond.methodLink RL 136 yX7_as, Cond.instanceMethod yX7_as, Cond.selects RX7 yX7_as yX7_as, Cond.code yX7_as cX7_as 3 (some .int), Cond.methodLink RL 137 yX6_trace, Cond.instanceMethod yX6_trace, Cond.selects RX6 yX6_trace yX6_trace, Cond.code yX6_trace cX6_trace 1 (some .int), Cond.methodLink RL 140 yX7_trace, Cond.instanceMethod yX7_trace, Cond.selects RX7 yX7_trace yX7_trace, Cond.code yX7_trace cX7_trace 1 (some .int), Cond.methodLink RL 141 yX6_fault, Cond.instanceMethod yX6_fault, Cond.selects RX6 yX6_fault yX6_fault, Cond.code yX6_fault cX6_fault 1 (some .int), Cond.methodLink RL 144 yX7_fault, Cond.instanceMethod yX7_fault, Cond.selects RX7 yX7_fault yX7_fault, Cond.code yX7_fault cX7_fault 1 (some .int), Cond.methodLink RL 145 yX6_many, Cond.instanceMethod yX6_many, Cond.selects RX6 yX6_many yX6_many]
def wsL_law_r31 : List Cond := [Cond.code yX6_many cX6_many 2 (some .int), Cond.methodLink RL 148 yX7_many, Cond.instanceMethod yX7_many, Cond.selects RX7 yX7_many yX7_many, Cond.code yX7_many cX7_many 2 (some .int)]
def wsL_law : List Cond := (wsL_law_r1 ++ (wsL_law_r2 ++ (wsL_law_r3 ++ (wsL_law_r4 ++ (wsL_law_r5 ++ (wsL_law_r6 ++ (wsL_law_r7 ++ (wsL_law_r8 ++ (wsL_law_r9 ++ (wsL_law_r10 ++ (wsL_law_r11 ++ (wsL_law_r12 ++ (wsL_law_r13 ++ (wsL_law_r14 ++ (wsL_law_r15 ++ (wsL_law_r16 ++ (wsL_law_r17 ++ (wsL_law_r18 ++ (wsL_law_r19 ++ (wsL_law_r20 ++ (wsL_law_r21 ++ (wsL_law_r22 ++ (wsL_law_r23 ++ (wsL_law_r24 ++ (wsL_law_r25 ++ (wsL_law_r26 ++ (wsL_law_r27 ++ (wsL_law_r28 ++ (wsL_law_r29 ++ (wsL_law_r30 ++ wsL_law_r31)))))))))))))))))))))))))))))) ++ wsX60 ++ wsX70 ++ wsX20 ++ wsX00 ++ wsX30 ++ wsX10 ++ wsX40 ++ wsX50 ++ ([] : List Cond)
end
section
set_option maxRecDepth 20000 in
theorem zx_in_wsL_law_r1 : ∀ w ∈ wsL_law_r1, w ∈ lw_tbl := fun w h => (goodIn_p wsL_law_r1 [63, 66] (by decide +kernel) (by decide +kernel) w h).1
set_option maxRecDepth 20000 in
theorem zx_in_wsL_law_r2 : ∀ w ∈ wsL_law_r2, w ∈ lw_tbl := fun w h => (goodIn_p wsL_law_r2 [73] (by decide +kernel) (by decide +kernel) w h).1
set_option maxRecDepth 20000 in
theorem zx_in_wsL_law_r3 : ∀ w ∈ wsL_law_r3, w ∈ lw_tbl := fun w h => (goodIn_p wsL_law_r3 [105, 122, 142, 162] (by decide +kernel) (by decide +kernel) w h).1
set_option maxRecDepth 20000 in
theorem zx_in_wsL_law_r4 : ∀ w ∈ wsL_law_r4, w ∈ lw_tbl := fun w h => (goodIn_p wsL_law_r4 [180, 555] (by decide +kernel) (by decide +kernel) w h).1
set_option maxRecDepth 20000 in
theorem zx_in_wsL_law_r5 : ∀ w ∈ wsL_law_r5, w ∈ lw_tbl := fun w h => (goodIn_p wsL_law_r5 [235, 238, 241, 245] (by decide +kernel) (by decide +kernel) w h).1
set_option maxRecDepth 20000 in
theorem zx_in_wsL_law_r6 : ∀ w ∈ wsL_law_r6, w ∈ lw_tbl := fun w h => (goodIn_p wsL_law_r6 [249, 253, 256, 259, 262, 265, 268, 272] (by decide +kernel) (by decide +kernel) w h).1
set_option maxRecDepth 20000 in
theorem zx_in_wsL_law_r7 : ∀ w ∈ wsL_law_r7, w ∈ lw_tbl := fun w h => (goodIn_p wsL_law_r7 [275, 279, 648] (by decide +kernel) (by decide +kernel) w h).1
set_option maxRecDepth 20000 in
theorem zx_in_wsL_law_r8 : ∀ w ∈ wsL_law_r8, w ∈ lw_tbl := fun w h => (goodIn_p wsL_law_r8 [651, 654, 657, 661, 665, 669] (by decide +kernel) (by decide +kernel) w h).1
set_option maxRecDepth 20000 in
theorem zx_in_wsL_law_r9 : ∀ w ∈ wsL_law_r9, w ∈ lw_tbl := fun w h => (goodIn_p wsL_law_r9 [673, 677, 681, 685, 689] (by decide +kernel) (by decide +kernel) w h).1
set_option maxRecDepth 20000 in
theorem zx_in_wsL_law_r10 : ∀ w ∈ wsL_law_r10, w ∈ lw_tbl := fun w h => (goodIn_p wsL_law_r10 [283, 287, 291, 294, 693, 697] (by decide +kernel) (by decide +kernel) w h).1
set_option maxRecDepth 20000 in
theorem zx_in_wsL_law_r11 : ∀ w ∈ wsL_law_r11, w ∈ lw_tbl := fun w h => (goodIn_p wsL_law_r11 [701, 704, 708, 298, 302, 712, 716] (by decide +kernel) (by decide +kernel) w h).1
set_option maxRecDepth 20000 in
theorem zx_in_wsL_law_r12 : ∀ w ∈ wsL_law_r12, w ∈ lw_tbl := fun w h => (goodIn_p wsL_law_r12 [306, 309, 720, 313, 724, 317] (by decide +kernel) (by decide +kernel) w h).1
set_option maxRecDepth 20000 in
theorem zx_in_wsL_law_r13 : ∀ w ∈ wsL_law_r13, w ∈ lw_tbl := fun w h => (goodIn_p wsL_law_r13 [728, 321, 325, 329, 333, 337] (by decide +kernel) (by decide +kernel) w h).1
set_option maxRecDepth 20000 in
theorem zx_in_wsL_law_r14 : ∀ w ∈ wsL_law_r14, w ∈ lw_tbl := fun w h => (goodIn_p wsL_law_r14 [340, 344, 348, 732, 736] (by decide +kernel) (by decide +kernel) w h).1
set_option maxRecDepth 20000 in
theorem zx_in_wsL_law_r15 : ∀ w ∈ wsL_law_r15, w ∈ lw_tbl := fun w h => (goodIn_p wsL_law_r15 [740, 744, 747, 751, 353, 357] (by decide +kernel) (by decide +kernel) w h).1
set_option maxRecDepth 20000 in
theorem zx_in_wsL_law_r16 : ∀ w ∈ wsL_law_r16, w ∈ lw_tbl := fun w h => (goodIn_p wsL_law_r16 [755, 362, 366, 759, 762, 373] (by decide +kernel) (by decide +kernel) w h).1
set_option maxRecDepth 20000 in
theorem zx_in_wsL_law_r17 : ∀ w ∈ wsL_law_r17, w ∈ lw_tbl := fun w h => (goodIn_p wsL_law_r17 [376, 380, 384, 391] (by decide +kernel) (by decide +kernel) w h).1
set_option maxRecDepth 20000 in
theorem zx_in_wsL_law_r18 : ∀ w ∈ wsL_law_r18, w ∈ lw_tbl := fun w h => (goodIn_p wsL_law_r18 [766, 770, 774, 778, 782] (by decide +kernel) (by decide +kernel) w h).1
end
section
set_option maxRecDepth 20000 in
theorem zx_in_wsL_law_r19 : ∀ w ∈ wsL_law_r19, w ∈ lw_tbl := fun w h => (goodIn_p wsL_law_r19 [786, 790, 395, 398, 794, 797, 801] (by decide +kernel) (by decide +kernel) w h).1
set_option maxRecDepth 20000 in
theorem zx_in_wsL_law_r20 : ∀ w ∈ wsL_law_r20, w ∈ lw_tbl := fun w h => (goodIn_p wsL_law_r20 [805, 402, 406, 809, 410, 813] (by decide +kernel) (by decide +kernel) w h).1
set_option maxRecDepth 20000 in
theorem zx_in_wsL_law_r21 : ∀ w ∈ wsL_law_r21, w ∈ lw_tbl := fun w h => (goodIn_p wsL_law_r21 [415, 817, 419, 422, 426] (by decide +kernel) (by decide +kernel) w h).1
set_option maxRecDepth 20000 in
theorem zx_in_wsL_law_r22 : ∀ w ∈ wsL_law_r22, w ∈ lw_tbl := fun w h => (goodIn_p wsL_law_r22 [821, 825, 431, 435, 439, 829] (by decide +kernel) (by decide +kernel) w h).1
set_option maxRecDepth 20000 in
theorem zx_in_wsL_law_r23 : ∀ w ∈ wsL_law_r23, w ∈ lw_tbl := fun w h => (goodIn_p wsL_law_r23 [833, 443, 447, 837, 451, 841] (by decide +kernel) (by decide +kernel) w h).1
set_option maxRecDepth 20000 in
theorem zx_in_wsL_law_r24 : ∀ w ∈ wsL_law_r24, w ∈ lw_tbl := fun w h => (goodIn_p wsL_law_r24 [455, 460, 845, 849, 465] (by decide +kernel) (by decide +kernel) w h).1
set_option maxRecDepth 20000 in
theorem zx_in_wsL_law_r25 : ∀ w ∈ wsL_law_r25, w ∈ lw_tbl := fun w h => (goodIn_p wsL_law_r25 [853, 469, 473, 857, 861, 477] (by decide +kernel) (by decide +kernel) w h).1
set_option maxRecDepth 20000 in
theorem zx_in_wsL_law_r26 : ∀ w ∈ wsL_law_r26, w ∈ lw_tbl := fun w h => (goodIn_p wsL_law_r26 [481, 865, 485, 869, 489, 492] (by decide +kernel) (by decide +kernel) w h).1
set_option maxRecDepth 20000 in
theorem zx_in_wsL_law_r27 : ∀ w ∈ wsL_law_r27, w ∈ lw_tbl := fun w h => (goodIn_p wsL_law_r27 [873, 496, 877, 881, 500, 885] (by decide +kernel) (by decide +kernel) w h).1
set_option maxRecDepth 20000 in
theorem zx_in_wsL_law_r28 : ∀ w ∈ wsL_law_r28, w ∈ lw_tbl := fun w h => (goodIn_p wsL_law_r28 [506, 510, 514, 518, 522, 889] (by decide +kernel) (by decide +kernel) w h).1
set_option maxRecDepth 20000 in
theorem zx_in_wsL_law_r29 : ∀ w ∈ wsL_law_r29, w ∈ lw_tbl := fun w h => (goodIn_p wsL_law_r29 [893, 526, 530, 534, 897] (by decide +kernel) (by decide +kernel) w h).1
set_option maxRecDepth 20000 in
theorem zx_in_wsL_law_r30 : ∀ w ∈ wsL_law_r30, w ∈ lw_tbl := fun w h => (goodIn_p wsL_law_r30 [538, 901, 542, 905, 546, 909] (by decide +kernel) (by decide +kernel) w h).1
set_option maxRecDepth 20000 in
theorem zx_in_wsL_law_r31 : ∀ w ∈ wsL_law_r31, w ∈ lw_tbl := fun w h => (goodIn_p wsL_law_r31 [550, 913] (by decide +kernel) (by decide +kernel) w h).1
set_option maxRecDepth 20000 in
theorem zx_in_wsX60 : ∀ w ∈ wsX60, w ∈ lw_tbl := fun w h => (goodIn_p wsX60 [] (by decide +kernel) (by decide +kernel) w h).1
set_option maxRecDepth 20000 in
theorem zx_in_wsX70 : ∀ w ∈ wsX70, w ∈ lw_tbl := fun w h => (goodIn_p wsX70 [] (by decide +kernel) (by decide +kernel) w h).1
set_option maxRecDepth 20000 in
theorem zx_in_wsX20 : ∀ w ∈ wsX20, w ∈ lw_tbl := fun w h => (goodIn_p wsX20 [] (by decide +kernel) (by decide +kernel) w h).1
set_option maxRecDepth 20000 in
theorem zx_in_wsX00 : ∀ w ∈ wsX00, w ∈ lw_tbl := fun w h => (goodIn_p wsX00 [] (by decide +kernel) (by decide +kernel) w h).1
set_option maxRecDepth 20000 in
theorem zx_in_wsX30 : ∀ w ∈ wsX30, w ∈ lw_tbl := fun w h => (goodIn_p wsX30 [] (by decide +kernel) (by decide +kernel) w h).1
set_option maxRecDepth 20000 in
theorem zx_in_wsX10 : ∀ w ∈ wsX10, w ∈ lw_tbl := fun w h => (goodIn_p wsX10 [] (by decide +kernel) (by decide +kernel) w h).1
set_option maxRecDepth 20000 in
theorem zx_in_wsX40 : ∀ w ∈ wsX40, w ∈ lw_tbl := fun w h => (goodIn_p wsX40 [] (by decide +kernel) (by decide +kernel) w h).1
set_option maxRecDepth 20000 in
theorem zx_in_wsX50 : ∀ w ∈ wsX50, w ∈ lw_tbl := fun w h => (goodIn_p wsX50 [] (by decide +kernel) (by decide +kernel) w h).1
theorem wsL_law_in : ∀ w ∈ wsL_law, w ∈ lw_tbl := List.forall_mem_append.mpr ⟨List.forall_mem_append.mpr ⟨List.forall_mem_append.mpr ⟨List.forall_mem_append.mpr ⟨List.forall_mem_append.mpr ⟨List.forall_mem_append.mpr ⟨List.forall_mem_append.mpr ⟨List.forall_mem_append.mpr ⟨List.forall_mem_append.mpr ⟨List.forall_mem_append.mpr ⟨zx_in_wsL_law_r1, List.forall_mem_append.mpr ⟨zx_in_wsL_law_r2, List.forall_mem_append.mpr ⟨zx_in_wsL_law_r3, List.forall_mem_append.mpr ⟨zx_in_wsL_law_r4, List.forall_mem_append.mpr ⟨zx_in_wsL_law_r5, List.forall_mem_append.mpr ⟨zx_in_wsL_law_r6, List.forall_mem_append.mpr ⟨zx_in_wsL_law_r7, List.forall_mem_append.mpr ⟨zx_in_wsL_law_r8, List.forall_mem_append.mpr ⟨zx_in_wsL_law_r9, List.forall_mem_append.mpr ⟨zx_in_wsL_law_r10, List.forall_mem_append.mpr ⟨zx_in_wsL_law_r11, List.forall_mem_append.mpr ⟨zx_in_wsL_law_r12, List.forall_mem_append.mpr ⟨zx_in_wsL_law_r13, List.forall_mem_append.mpr ⟨zx_in_wsL_law_r14, List.forall_mem_append.mpr ⟨zx_in_wsL_law_r15, List.forall_mem_append.mpr ⟨zx_in_wsL_law_r16, List.forall_mem_append.mpr ⟨zx_in_wsL_law_r17, List.forall_mem_append.mpr ⟨zx_in_wsL_law_r18, List.forall_mem_append.mpr ⟨zx_in_wsL_law_r19, List.forall_mem_append.mpr ⟨zx_in_wsL_law_r20, List.forall_mem_append.mpr ⟨zx_in_wsL_law_r21, List.forall_mem_append.mpr ⟨zx_in_wsL_law_r22, List.forall_mem_append.mpr ⟨zx_in_wsL_law_r23, List.forall_mem_append.mpr ⟨zx_in_wsL_law_r24, List.forall_mem_append.mpr ⟨zx_in_wsL_law_r25, List.forall_mem_append.mpr ⟨zx_in_wsL_law_r26, List.forall_mem_append.mpr ⟨zx_in_wsL_law_r27, List.forall_mem_append.mpr ⟨zx_in_wsL_law_r28, List.forall_mem_append.mpr ⟨zx_in_wsL_law_r29, List.forall_mem_append.mpr ⟨zx_in_wsL_law_r30, zx_in_wsL_law_r31⟩⟩⟩⟩⟩⟩⟩⟩⟩⟩⟩⟩⟩⟩⟩⟩⟩⟩⟩⟩⟩⟩⟩⟩⟩⟩⟩⟩⟩⟩, zx_in_wsX60⟩, zx_in_wsX70⟩, zx_in_wsX20⟩, zx_in_wsX00⟩, zx_in_wsX30⟩, zx_in_wsX10⟩, zx_in_wsX40⟩, zx_in_wsX50⟩, fun _ h => absurd h List.not_mem_nil⟩
end
section
theorem inlX0 : ∀ w ∈ wsX00, w ∈ wsL_law := fun _ h => List.mem_append_left _ (List.mem_append_left _ (List.mem_append_left _ (List.mem_append_left _ (List.mem_append_left _ (List.mem_append_right _ h)))))
theorem inX0 : ∀ w ∈ wsX00, w ∈ lw_tbl := fun w h => wsL_law_in w (inlX0 w h)
theorem inlX1 : ∀ w ∈ wsX10, w ∈ wsL_law := fun _ h => List.mem_append_left _ (List.mem_append_left _ (List.mem_append_left _ (List.mem_append_right _ h)))
theorem inX1 : ∀ w ∈ wsX10, w ∈ lw_tbl := fun w h => wsL_law_in w (inlX1 w h)
theorem inlX2 : ∀ w ∈ wsX20, w ∈ wsL_law := fun _ h => List.mem_append_left _ (List.mem_append_left _ (List.mem_append_left _ (List.mem_append_left _ (List.mem_append_left _ (List.mem_append_left _ (List.mem_append_right _ h))))))
theorem inX2 : ∀ w ∈ wsX20, w ∈ lw_tbl := fun w h => wsL_law_in w (inlX2 w h)
theorem inlX3 : ∀ w ∈ wsX30, w ∈ wsL_law := fun _ h => List.mem_append_left _ (List.mem_append_left _ (List.mem_append_left _ (List.mem_append_left _ (List.mem_append_right _ h))))
theorem inX3 : ∀ w ∈ wsX30, w ∈ lw_tbl := fun w h => wsL_law_in w (inlX3 w h)
theorem inlX4 : ∀ w ∈ wsX40, w ∈ wsL_law := fun _ h => List.mem_append_left _ (List.mem_append_left _ (List.mem_append_right _ h))
theorem inX4 : ∀ w ∈ wsX40, w ∈ lw_tbl := fun w h => wsL_law_in w (inlX4 w h)
theorem inlX5 : ∀ w ∈ wsX50, w ∈ wsL_law := fun _ h => List.mem_append_left _ (List.mem_append_right _ h)
theorem inX5 : ∀ w ∈ wsX50, w ∈ lw_tbl := fun w h => wsL_law_in w (inlX5 w h)
theorem inlX6 : ∀ w ∈ wsX60, w ∈ wsL_law := fun _ h => List.mem_append_left _ (List.mem_append_left _ (List.mem_append_left _ (List.mem_append_left _ (List.mem_append_left _ (List.mem_append_left _ (List.mem_append_left _ (List.mem_append_left _ (List.mem_append_right _ h))))))))
theorem inX6 : ∀ w ∈ wsX60, w ∈ lw_tbl := fun w h => wsL_law_in w (inlX6 w h)
theorem inlX7 : ∀ w ∈ wsX70, w ∈ wsL_law := fun _ h => List.mem_append_left _ (List.mem_append_left _ (List.mem_append_left _ (List.mem_append_left _ (List.mem_append_left _ (List.mem_append_left _ (List.mem_append_left _ (List.mem_append_right _ h)))))))
theorem inX7 : ∀ w ∈ wsX70, w ∈ lw_tbl := fun w h => wsL_law_in w (inlX7 w h)
theorem inJ6 : ∀ w ∈ wsJ60, w ∈ lw_tbl := by decide +kernel
theorem inJ9 : ∀ w ∈ wsJ90, w ∈ lw_tbl := by decide +kernel
theorem inJ10 : ∀ w ∈ wsJ100, w ∈ lw_tbl := by decide +kernel
theorem dX0_init_0 : decode cX0_init 0 = .ok (.aload_n 0, 1) := by decide +kernel
theorem dX0_init_1 : decode cX0_init 1 = .ok (.invokespecial 3, 3) := by decide +kernel
theorem dX0_init_4 : decode cX0_init 4 = .ok (.aload_n 0, 1) := by decide +kernel
theorem dX0_init_5 : decode cX0_init 5 = .ok (.bipush 6, 2) := by decide +kernel
theorem dX0_init_7 : decode cX0_init 7 = .ok (.newarray .int, 2) := by decide +kernel
theorem dX0_init_9 : decode cX0_init 9 = .ok (.putfield 9, 3) := by decide +kernel
theorem dX0_init_12 : decode cX0_init 12 = .ok (.aload_n 0, 1) := by decide +kernel
theorem dX0_init_13 : decode cX0_init 13 = .ok (.iconst 0, 1) := by decide +kernel
theorem dX0_init_14 : decode cX0_init 14 = .ok (.putfield 15, 3) := by decide +kernel
theorem dX0_init_17 : decode cX0_init 17 = .ok (.return_, 1) := by decide +kernel
theorem dX0_isDown_0 : decode cX0_isDown 0 = .ok (.aload_n 0, 1) := by decide +kernel
theorem dX0_isDown_1 : decode cX0_isDown 1 = .ok (.getfield 15, 3) := by decide +kernel
theorem dX0_isDown_4 : decode cX0_isDown 4 = .ok (.iload_n 1, 1) := by decide +kernel
theorem dX0_isDown_5 : decode cX0_isDown 5 = .ok (.ishr, 1) := by decide +kernel
theorem dX0_isDown_6 : decode cX0_isDown 6 = .ok (.iconst 1, 1) := by decide +kernel
theorem dX0_isDown_7 : decode cX0_isDown 7 = .ok (.iand, 1) := by decide +kernel
theorem dX0_isDown_8 : decode cX0_isDown 8 = .ok (.iconst 1, 1) := by decide +kernel
theorem dX0_isDown_9 : decode cX0_isDown 9 = .ok (.if_icmp .ne 7, 3) := by decide +kernel
theorem dX0_isDown_12 : decode cX0_isDown 12 = .ok (.iconst 1, 1) := by decide +kernel
theorem dX0_isDown_13 : decode cX0_isDown 13 = .ok (.goto 4, 3) := by decide +kernel
theorem dX0_isDown_16 : decode cX0_isDown 16 = .ok (.iconst 0, 1) := by decide +kernel
theorem dX0_isDown_17 : decode cX0_isDown 17 = .ok (.ireturn, 1) := by decide +kernel
theorem dX0_becomeLike_0 : decode cX0_becomeLike 0 = .ok (.aload_n 1, 1) := by decide +kernel
theorem dX0_becomeLike_1 : decode cX0_becomeLike 1 = .ok (.getfield 9, 3) := by decide +kernel
theorem dX0_becomeLike_4 : decode cX0_becomeLike 4 = .ok (.iconst 0, 1) := by decide +kernel
theorem dX0_becomeLike_5 : decode cX0_becomeLike 5 = .ok (.aload_n 0, 1) := by decide +kernel
theorem dX0_becomeLike_6 : decode cX0_becomeLike 6 = .ok (.getfield 9, 3) := by decide +kernel
theorem dX0_becomeLike_9 : decode cX0_becomeLike 9 = .ok (.iconst 0, 1) := by decide +kernel
theorem dX0_becomeLike_10 : decode cX0_becomeLike 10 = .ok (.bipush 6, 2) := by decide +kernel
theorem dX0_becomeLike_12 : decode cX0_becomeLike 12 = .ok (.invokestatic 19, 3) := by decide +kernel
theorem dX0_becomeLike_15 : decode cX0_becomeLike 15 = .ok (.aload_n 0, 1) := by decide +kernel
theorem dX0_becomeLike_16 : decode cX0_becomeLike 16 = .ok (.aload_n 1, 1) := by decide +kernel
theorem dX0_becomeLike_17 : decode cX0_becomeLike 17 = .ok (.getfield 15, 3) := by decide +kernel
theorem dX0_becomeLike_20 : decode cX0_becomeLike 20 = .ok (.putfield 15, 3) := by decide +kernel
theorem dX0_becomeLike_23 : decode cX0_becomeLike 23 = .ok (.return_, 1) := by decide +kernel
theorem dX1_init_0 : decode cX1_init 0 = .ok (.aload_n 0, 1) := by decide +kernel
theorem dX1_init_1 : decode cX1_init 1 = .ok (.invokespecial 3, 3) := by decide +kernel
theorem dX1_init_4 : decode cX1_init 4 = .ok (.aload_n 0, 1) := by decide +kernel
theorem dX1_init_5 : decode cX1_init 5 = .ok (.iconst 0, 1) := by decide +kernel
theorem dX1_init_6 : decode cX1_init 6 = .ok (.putfield 9, 3) := by decide +kernel
theorem dX1_init_9 : decode cX1_init 9 = .ok (.aload_n 0, 1) := by decide +kernel
theorem dX1_init_10 : decode cX1_init 10 = .ok (.bipush 20, 2) := by decide +kernel
theorem dX1_init_12 : decode cX1_init 12 = .ok (.newarray .int, 2) := by decide +kernel
theorem dX1_init_14 : decode cX1_init 14 = .ok (.putfield 15, 3) := by decide +kernel
theorem dX1_init_17 : decode cX1_init 17 = .ok (.aload_n 0, 1) := by decide +kernel
theorem dX1_init_18 : decode cX1_init 18 = .ok (.bipush 20, 2) := by decide +kernel
theorem dX1_init_20 : decode cX1_init 20 = .ok (.newarray .int, 2) := by decide +kernel
theorem dX1_init_22 : decode cX1_init 22 = .ok (.putfield 19, 3) := by decide +kernel
theorem dX1_init_25 : decode cX1_init 25 = .ok (.return_, 1) := by decide +kernel
theorem dX2_init_0 : decode cX2_init 0 = .ok (.aload_n 0, 1) := by decide +kernel
theorem dX2_init_1 : decode cX2_init 1 = .ok (.invokespecial 3, 3) := by decide +kernel
theorem dX2_init_4 : decode cX2_init 4 = .ok (.aload_n 0, 1) := by decide +kernel
theorem dX2_init_5 : decode cX2_init 5 = .ok (.iconst 0, 1) := by decide +kernel
theorem dX2_init_6 : decode cX2_init 6 = .ok (.putfield 9, 3) := by decide +kernel
theorem dX2_init_9 : decode cX2_init 9 = .ok (.aload_n 0, 1) := by decide +kernel
theorem dX2_init_10 : decode cX2_init 10 = .ok (.iconst 0, 1) := by decide +kernel
theorem dX2_init_11 : decode cX2_init 11 = .ok (.putfield 15, 3) := by decide +kernel
theorem dX2_init_14 : decode cX2_init 14 = .ok (.aload_n 0, 1) := by decide +kernel
theorem dX2_init_15 : decode cX2_init 15 = .ok (.iconst 4, 1) := by decide +kernel
theorem dX2_init_16 : decode cX2_init 16 = .ok (.newarray .int, 2) := by decide +kernel
theorem dX2_init_18 : decode cX2_init 18 = .ok (.putfield 18, 3) := by decide +kernel
theorem dX2_init_21 : decode cX2_init 21 = .ok (.aload_n 0, 1) := by decide +kernel
theorem dX2_init_22 : decode cX2_init 22 = .ok (.bipush 6, 2) := by decide +kernel
theorem dX2_init_24 : decode cX2_init 24 = .ok (.newarray .int, 2) := by decide +kernel
theorem dX2_init_26 : decode cX2_init 26 = .ok (.putfield 22, 3) := by decide +kernel
theorem dX2_init_29 : decode cX2_init 29 = .ok (.aload_n 0, 1) := by decide +kernel
theorem dX2_init_30 : decode cX2_init 30 = .ok (.bipush 6, 2) := by decide +kernel
theorem dX2_init_32 : decode cX2_init 32 = .ok (.newarray .int, 2) := by decide +kernel
theorem dX2_init_34 : decode cX2_init 34 = .ok (.putfield 25, 3) := by decide +kernel
theorem dX2_init_37 : decode cX2_init 37 = .ok (.aload_n 0, 1) := by decide +kernel
theorem dX2_init_38 : decode cX2_init 38 = .ok (.iconst 0, 1) := by decide +kernel
theorem dX2_init_39 : decode cX2_init 39 = .ok (.putfield 28, 3) := by decide +kernel
theorem dX2_init_42 : decode cX2_init 42 = .ok (.return_, 1) := by decide +kernel
set_option maxRecDepth 20000 in
theorem ggX2_bears_X6_bearing : GoodIn wsX2_bears wsX6_bearing := goodIn_r _ [5] (by decide +kernel) (by decide +kernel)
set_option maxRecDepth 20000 in
theorem gX2_bears_X6_bearing_n31 : GoodIn wsX2_bears (wsX6_bearing) := ggX2_bears_X6_bearing
theorem dX2_bears_0 : decode cX2_bears 0 = .ok (.aload_n 0, 1) := by decide +kernel
theorem dX2_bears_1 : decode cX2_bears 1 = .ok (.getfield 22, 3) := by decide +kernel
theorem dX2_bears_4 : decode cX2_bears 4 = .ok (.iload_n 1, 1) := by decide +kernel
theorem dX2_bears_5 : decode cX2_bears 5 = .ok (.iaload, 1) := by decide +kernel
theorem dX2_bears_6 : decode cX2_bears 6 = .ok (.aload_n 0, 1) := by decide +kernel
theorem dX2_bears_7 : decode cX2_bears 7 = .ok (.getfield 25, 3) := by decide +kernel
theorem dX2_bears_10 : decode cX2_bears 10 = .ok (.iload_n 1, 1) := by decide +kernel
theorem dX2_bears_11 : decode cX2_bears 11 = .ok (.iaload, 1) := by decide +kernel
theorem dX2_bears_12 : decode cX2_bears 12 = .ok (.invokestatic 31, 3) := by decide +kernel
theorem dX2_bears_15 : decode cX2_bears 15 = .ok (.ireturn, 1) := by decide +kernel
set_option maxRecDepth 20000 in
theorem ggX2_breathe_X2_breatheHushed : GoodIn wsX2_breathe wsX2_breatheHushed := goodIn_r _ [14, 15, 16, 17, 13, 18, 19, 1, 20, 21, 5, 22, 23, 24, 25, 26, 27, 28, 29, 30, 31, 32, 33, 34, 35, 36, 37, 38, 39, 40, 41, 42, 45, 46, 47, 48, 49, 50, 43, 44] (by decide +kernel) (by decide +kernel)
set_option maxRecDepth 20000 in
theorem gX2_breathe_X2_breatheHushed : GoodIn wsX2_breathe (wsV RX2 48 RX2 yX2_breatheHushed wsX2_breatheHushed) := goodIn_app (goodIn_of _ (by decide +kernel)) ggX2_breathe_X2_breatheHushed
theorem dX2_breathe_0 : decode cX2_breathe 0 = .ok (.aload_n 1, 1) := by decide +kernel
theorem dX2_breathe_1 : decode cX2_breathe 1 = .ok (.getfield 35, 3) := by decide +kernel
theorem dX2_breathe_4 : decode cX2_breathe 4 = .ok (.iload_n 3, 1) := by decide +kernel
theorem dX2_breathe_5 : decode cX2_breathe 5 = .ok (.iconst 0, 1) := by decide +kernel
theorem dX2_breathe_6 : decode cX2_breathe 6 = .ok (.bipush 40, 2) := by decide +kernel
theorem dX2_breathe_8 : decode cX2_breathe 8 = .ok (.aload_n 1, 1) := by decide +kernel
theorem dX2_breathe_9 : decode cX2_breathe 9 = .ok (.getfield 35, 3) := by decide +kernel
theorem dX2_breathe_12 : decode cX2_breathe 12 = .ok (.iload_n 3, 1) := by decide +kernel
theorem dX2_breathe_13 : decode cX2_breathe 13 = .ok (.iaload, 1) := by decide +kernel
theorem dX2_breathe_14 : decode cX2_breathe 14 = .ok (.aload_n 0, 1) := by decide +kernel
theorem dX2_breathe_15 : decode cX2_breathe 15 = .ok (.getfield 18, 3) := by decide +kernel
theorem dX2_breathe_18 : decode cX2_breathe 18 = .ok (.iload 4, 2) := by decide +kernel
theorem dX2_breathe_20 : decode cX2_breathe 20 = .ok (.iaload, 1) := by decide +kernel
theorem dX2_breathe_21 : decode cX2_breathe 21 = .ok (.iadd, 1) := by decide +kernel
theorem dX2_breathe_22 : decode cX2_breathe 22 = .ok (.iconst 4, 1) := by decide +kernel
theorem dX2_breathe_23 : decode cX2_breathe 23 = .ok (.isub, 1) := by decide +kernel
theorem dX2_breathe_24 : decode cX2_breathe 24 = .ok (.invokestatic 40, 3) := by decide +kernel
theorem dX2_breathe_27 : decode cX2_breathe 27 = .ok (.invokestatic 45, 3) := by decide +kernel
theorem dX2_breathe_30 : decode cX2_breathe 30 = .ok (.iastore, 1) := by decide +kernel
theorem dX2_breathe_31 : decode cX2_breathe 31 = .ok (.aload_n 0, 1) := by decide +kernel
theorem dX2_breathe_32 : decode cX2_breathe 32 = .ok (.aload_n 1, 1) := by decide +kernel
theorem dX2_breathe_33 : decode cX2_breathe 33 = .ok (.iload_n 2, 1) := by decide +kernel
theorem dX2_breathe_34 : decode cX2_breathe 34 = .ok (.invokevirtual 48, 3) := by decide +kernel
theorem dX2_breathe_37 : decode cX2_breathe 37 = .ok (.ireturn, 1) := by decide +kernel
set_option maxRecDepth 20000 in
theorem ggX2_breatheHushed_X2_passAir : GoodIn wsX2_breatheHushed wsX2_passAir := goodIn_r _ [5, 6, 7, 8, 9, 10, 11, 32, 33, 34, 35, 36, 37, 38, 39] (by decide +kernel) (by decide +kernel)
set_option maxRecDepth 20000 in
theorem gX2_breatheHushed_X2_passAir : GoodIn wsX2_breatheHushed (wsV RX2 52 RX2 yX2_passAir wsX2_passAir) := goodIn_app (goodIn_of _ (by decide +kernel)) ggX2_breatheHushed_X2_passAir
set_option maxRecDepth 20000 in
theorem ggX2_breatheHushed_X2_dropBirds : GoodIn wsX2_breatheHushed wsX2_dropBirds := goodIn_r _ [15, 6, 7, 16, 17, 18, 19, 20, 21, 22, 23, 24, 25, 4, 26, 27, 28, 29, 30, 31, 32, 33, 34, 35, 36, 37, 38, 39] (by decide +kernel) (by decide +kernel)
set_option maxRecDepth 20000 in
theorem gX2_breatheHushed_X2_dropBirds : GoodIn wsX2_breatheHushed (wsV RX2 55 RX2 yX2_dropBirds wsX2_dropBirds) := goodIn_app (goodIn_of _ (by decide +kernel)) ggX2_breatheHushed_X2_dropBirds
theorem dX2_breatheHushed_0 : decode cX2_breatheHushed 0 = .ok (.aload_n 0, 1) := by decide +kernel
theorem dX2_breatheHushed_1 : decode cX2_breatheHushed 1 = .ok (.aload_n 1, 1) := by decide +kernel
theorem dX2_breatheHushed_2 : decode cX2_breatheHushed 2 = .ok (.iload_n 2, 1) := by decide +kernel
theorem dX2_breatheHushed_3 : decode cX2_breatheHushed 3 = .ok (.invokevirtual 52, 3) := by decide +kernel
theorem dX2_breatheHushed_6 : decode cX2_breatheHushed 6 = .ok (.pop, 1) := by decide +kernel
theorem dX2_breatheHushed_7 : decode cX2_breatheHushed 7 = .ok (.aload_n 0, 1) := by decide +kernel
theorem dX2_breatheHushed_8 : decode cX2_breatheHushed 8 = .ok (.aload_n 1, 1) := by decide +kernel
theorem dX2_breatheHushed_9 : decode cX2_breatheHushed 9 = .ok (.invokevirtual 55, 3) := by decide +kernel
theorem dX2_breatheHushed_12 : decode cX2_breatheHushed 12 = .ok (.ireturn, 1) := by decide +kernel
theorem dX2_passAir_0 : decode cX2_passAir 0 = .ok (.iconst 0, 1) := by decide +kernel
theorem dX2_passAir_1 : decode cX2_passAir 1 = .ok (.istore_n 3, 1) := by decide +kernel
theorem dX2_passAir_2 : decode cX2_passAir 2 = .ok (.iconst 0, 1) := by decide +kernel
theorem dX2_passAir_3 : decode cX2_passAir 3 = .ok (.istore 4, 2) := by decide +kernel
theorem dX2_passAir_5 : decode cX2_passAir 5 = .ok (.iload 4, 2) := by decide +kernel
theorem dX2_passAir_7 : decode cX2_passAir 7 = .ok (.aload_n 0, 1) := by decide +kernel
theorem dX2_passAir_8 : decode cX2_passAir 8 = .ok (.getfield 9, 3) := by decide +kernel
theorem dX2_passAir_11 : decode cX2_passAir 11 = .ok (.iconst 1, 1) := by decide +kernel
theorem dX2_passAir_12 : decode cX2_passAir 12 = .ok (.isub, 1) := by decide +kernel
theorem dX2_passAir_13 : decode cX2_passAir 13 = .ok (.if_icmp .ge 88, 3) := by decide +kernel
theorem dX2_passAir_16 : decode cX2_passAir 16 = .ok (.aload_n 1, 1) := by decide +kernel
theorem dX2_passAir_17 : decode cX2_passAir 17 = .ok (.getfield 35, 3) := by decide +kernel
theorem dX2_passAir_20 : decode cX2_passAir 20 = .ok (.iload 4, 2) := by decide +kernel
theorem dX2_passAir_22 : decode cX2_passAir 22 = .ok (.iaload, 1) := by decide +kernel
theorem dX2_passAir_23 : decode cX2_passAir 23 = .ok (.aload_n 1, 1) := by decide +kernel
theorem dX2_passAir_24 : decode cX2_passAir 24 = .ok (.getfield 35, 3) := by decide +kernel
theorem dX2_passAir_27 : decode cX2_passAir 27 = .ok (.iload 4, 2) := by decide +kernel
theorem dX2_passAir_29 : decode cX2_passAir 29 = .ok (.iconst 1, 1) := by decide +kernel
theorem dX2_passAir_30 : decode cX2_passAir 30 = .ok (.iadd, 1) := by decide +kernel
theorem dX2_passAir_31 : decode cX2_passAir 31 = .ok (.iaload, 1) := by decide +kernel
theorem dX2_passAir_32 : decode cX2_passAir 32 = .ok (.isub, 1) := by decide +kernel
theorem dX2_passAir_33 : decode cX2_passAir 33 = .ok (.istore 5, 2) := by decide +kernel
theorem dX2_passAir_35 : decode cX2_passAir 35 = .ok (.iload_n 2, 1) := by decide +kernel
theorem dX2_passAir_36 : decode cX2_passAir 36 = .ok (.iload 4, 2) := by decide +kernel
theorem dX2_passAir_38 : decode cX2_passAir 38 = .ok (.ishr, 1) := by decide +kernel
theorem dX2_passAir_39 : decode cX2_passAir 39 = .ok (.iconst 1, 1) := by decide +kernel
theorem dX2_passAir_40 : decode cX2_passAir 40 = .ok (.iand, 1) := by decide +kernel
theorem dX2_passAir_41 : decode cX2_passAir 41 = .ok (.iconst 1, 1) := by decide +kernel
theorem dX2_passAir_42 : decode cX2_passAir 42 = .ok (.if_icmp .ne 53, 3) := by decide +kernel
theorem dX2_passAir_45 : decode cX2_passAir 45 = .ok (.iload 5, 2) := by decide +kernel
theorem dX2_passAir_47 : decode cX2_passAir 47 = .ok (.invokestatic 59, 3) := by decide +kernel
theorem dX2_passAir_50 : decode cX2_passAir 50 = .ok (.iconst 2, 1) := by decide +kernel
theorem dX2_passAir_51 : decode cX2_passAir 51 = .ok (.if_icmp .lt 44, 3) := by decide +kernel
theorem dX2_passAir_54 : decode cX2_passAir 54 = .ok (.iload 5, 2) := by decide +kernel
theorem dX2_passAir_56 : decode cX2_passAir 56 = .ok (.ifCond .le 7, 3) := by decide +kernel
theorem dX2_passAir_59 : decode cX2_passAir 59 = .ok (.iconst 1, 1) := by decide +kernel
theorem dX2_passAir_60 : decode cX2_passAir 60 = .ok (.goto 4, 3) := by decide +kernel
theorem dX2_passAir_63 : decode cX2_passAir 63 = .ok (.iconst (-1), 1) := by decide +kernel
theorem dX2_passAir_64 : decode cX2_passAir 64 = .ok (.istore 6, 2) := by decide +kernel
theorem dX2_passAir_66 : decode cX2_passAir 66 = .ok (.aload_n 1, 1) := by decide +kernel
theorem dX2_passAir_67 : decode cX2_passAir 67 = .ok (.getfield 35, 3) := by decide +kernel
theorem dX2_passAir_70 : decode cX2_passAir 70 = .ok (.iload 4, 2) := by decide +kernel
theorem dX2_passAir_72 : decode cX2_passAir 72 = .ok (.dup2, 1) := by decide +kernel
theorem dX2_passAir_73 : decode cX2_passAir 73 = .ok (.iaload, 1) := by decide +kernel
theorem dX2_passAir_74 : decode cX2_passAir 74 = .ok (.iload 6, 2) := by decide +kernel
theorem dX2_passAir_76 : decode cX2_passAir 76 = .ok (.isub, 1) := by decide +kernel
theorem dX2_passAir_77 : decode cX2_passAir 77 = .ok (.iastore, 1) := by decide +kernel
theorem dX2_passAir_78 : decode cX2_passAir 78 = .ok (.aload_n 1, 1) := by decide +kernel
theorem dX2_passAir_79 : decode cX2_passAir 79 = .ok (.getfield 35, 3) := by decide +kernel
theorem dX2_passAir_82 : decode cX2_passAir 82 = .ok (.iload 4, 2) := by decide +kernel
theorem dX2_passAir_84 : decode cX2_passAir 84 = .ok (.iconst 1, 1) := by decide +kernel
theorem dX2_passAir_85 : decode cX2_passAir 85 = .ok (.iadd, 1) := by decide +kernel
theorem dX2_passAir_86 : decode cX2_passAir 86 = .ok (.dup2, 1) := by decide +kernel
theorem dX2_passAir_87 : decode cX2_passAir 87 = .ok (.iaload, 1) := by decide +kernel
theorem dX2_passAir_88 : decode cX2_passAir 88 = .ok (.iload 6, 2) := by decide +kernel
theorem dX2_passAir_90 : decode cX2_passAir 90 = .ok (.iadd, 1) := by decide +kernel
theorem dX2_passAir_91 : decode cX2_passAir 91 = .ok (.iastore, 1) := by decide +kernel
theorem dX2_passAir_92 : decode cX2_passAir 92 = .ok (.iinc 3 1, 3) := by decide +kernel
theorem dX2_passAir_95 : decode cX2_passAir 95 = .ok (.iinc 4 1, 3) := by decide +kernel
theorem dX2_passAir_98 : decode cX2_passAir 98 = .ok (.goto (-93), 3) := by decide +kernel
theorem dX2_passAir_101 : decode cX2_passAir 101 = .ok (.iload_n 3, 1) := by decide +kernel
theorem dX2_passAir_102 : decode cX2_passAir 102 = .ok (.ireturn, 1) := by decide +kernel
set_option maxRecDepth 20000 in
theorem ggX2_dropBirds_X0_isDown : GoodIn wsX2_dropBirds wsX0_isDown := goodIn_r _ [8, 9, 26, 27] (by decide +kernel) (by decide +kernel)
set_option maxRecDepth 20000 in
theorem gX2_dropBirds_X0_isDown : GoodIn wsX2_dropBirds (wsV RX2 63 RX0 yX0_isDown wsX0_isDown) := goodIn_app (goodIn_of _ (by decide +kernel)) ggX2_dropBirds_X0_isDown
set_option maxRecDepth 20000 in
theorem ggX2_dropBirds_X2_bears : GoodIn wsX2_dropBirds wsX2_bears := goodIn_r _ [14, 15, 16, 17, 18, 19, 20, 21, 22, 23, 24, 25] (by decide +kernel) (by decide +kernel)
set_option maxRecDepth 20000 in
theorem gX2_dropBirds_X2_bears : GoodIn wsX2_dropBirds (wsV RX2 67 RX2 yX2_bears wsX2_bears) := goodIn_app (goodIn_of _ (by decide +kernel)) ggX2_dropBirds_X2_bears
theorem dX2_dropBirds_0 : decode cX2_dropBirds 0 = .ok (.iconst 0, 1) := by decide +kernel
theorem dX2_dropBirds_1 : decode cX2_dropBirds 1 = .ok (.istore_n 2, 1) := by decide +kernel
theorem dX2_dropBirds_2 : decode cX2_dropBirds 2 = .ok (.iconst 0, 1) := by decide +kernel
theorem dX2_dropBirds_3 : decode cX2_dropBirds 3 = .ok (.istore_n 3, 1) := by decide +kernel
theorem dX2_dropBirds_4 : decode cX2_dropBirds 4 = .ok (.iload_n 3, 1) := by decide +kernel
theorem dX2_dropBirds_5 : decode cX2_dropBirds 5 = .ok (.aload_n 0, 1) := by decide +kernel
theorem dX2_dropBirds_6 : decode cX2_dropBirds 6 = .ok (.getfield 9, 3) := by decide +kernel
theorem dX2_dropBirds_9 : decode cX2_dropBirds 9 = .ok (.if_icmp .ge 37, 3) := by decide +kernel
theorem dX2_dropBirds_12 : decode cX2_dropBirds 12 = .ok (.aload_n 1, 1) := by decide +kernel
theorem dX2_dropBirds_13 : decode cX2_dropBirds 13 = .ok (.iload_n 3, 1) := by decide +kernel
theorem dX2_dropBirds_14 : decode cX2_dropBirds 14 = .ok (.invokevirtual 63, 3) := by decide +kernel
theorem dX2_dropBirds_17 : decode cX2_dropBirds 17 = .ok (.ifCond .ne 23, 3) := by decide +kernel
theorem dX2_dropBirds_20 : decode cX2_dropBirds 20 = .ok (.aload_n 1, 1) := by decide +kernel
theorem dX2_dropBirds_21 : decode cX2_dropBirds 21 = .ok (.getfield 35, 3) := by decide +kernel
theorem dX2_dropBirds_24 : decode cX2_dropBirds 24 = .ok (.iload_n 3, 1) := by decide +kernel
theorem dX2_dropBirds_25 : decode cX2_dropBirds 25 = .ok (.iaload, 1) := by decide +kernel
theorem dX2_dropBirds_26 : decode cX2_dropBirds 26 = .ok (.aload_n 0, 1) := by decide +kernel
theorem dX2_dropBirds_27 : decode cX2_dropBirds 27 = .ok (.iload_n 3, 1) := by decide +kernel
theorem dX2_dropBirds_28 : decode cX2_dropBirds 28 = .ok (.invokevirtual 67, 3) := by decide +kernel
theorem dX2_dropBirds_31 : decode cX2_dropBirds 31 = .ok (.if_icmp .le 9, 3) := by decide +kernel
theorem dX2_dropBirds_34 : decode cX2_dropBirds 34 = .ok (.iload_n 2, 1) := by decide +kernel
theorem dX2_dropBirds_35 : decode cX2_dropBirds 35 = .ok (.iconst 1, 1) := by decide +kernel
theorem dX2_dropBirds_36 : decode cX2_dropBirds 36 = .ok (.iload_n 3, 1) := by decide +kernel
theorem dX2_dropBirds_37 : decode cX2_dropBirds 37 = .ok (.ishl, 1) := by decide +kernel
theorem dX2_dropBirds_38 : decode cX2_dropBirds 38 = .ok (.ior, 1) := by decide +kernel
theorem dX2_dropBirds_39 : decode cX2_dropBirds 39 = .ok (.istore_n 2, 1) := by decide +kernel
theorem dX2_dropBirds_40 : decode cX2_dropBirds 40 = .ok (.iinc 3 1, 3) := by decide +kernel
theorem dX2_dropBirds_43 : decode cX2_dropBirds 43 = .ok (.goto (-39), 3) := by decide +kernel
theorem dX2_dropBirds_46 : decode cX2_dropBirds 46 = .ok (.aload_n 1, 1) := by decide +kernel
theorem dX2_dropBirds_47 : decode cX2_dropBirds 47 = .ok (.dup, 1) := by decide +kernel
theorem dX2_dropBirds_48 : decode cX2_dropBirds 48 = .ok (.getfield 70, 3) := by decide +kernel
theorem dX2_dropBirds_51 : decode cX2_dropBirds 51 = .ok (.iload_n 2, 1) := by decide +kernel
theorem dX2_dropBirds_52 : decode cX2_dropBirds 52 = .ok (.ior, 1) := by decide +kernel
theorem dX2_dropBirds_53 : decode cX2_dropBirds 53 = .ok (.putfield 70, 3) := by decide +kernel
theorem dX2_dropBirds_56 : decode cX2_dropBirds 56 = .ok (.iload_n 2, 1) := by decide +kernel
theorem dX2_dropBirds_57 : decode cX2_dropBirds 57 = .ok (.ireturn, 1) := by decide +kernel
theorem dX3_init_0 : decode cX3_init 0 = .ok (.aload_n 0, 1) := by decide +kernel
theorem dX3_init_1 : decode cX3_init 1 = .ok (.invokespecial 3, 3) := by decide +kernel
theorem dX3_init_4 : decode cX3_init 4 = .ok (.aload_n 0, 1) := by decide +kernel
theorem dX3_init_5 : decode cX3_init 5 = .ok (.iconst 0, 1) := by decide +kernel
theorem dX3_init_6 : decode cX3_init 6 = .ok (.putfield 9, 3) := by decide +kernel
theorem dX3_init_9 : decode cX3_init 9 = .ok (.aload_n 0, 1) := by decide +kernel
theorem dX3_init_10 : decode cX3_init 10 = .ok (.bipush 8, 2) := by decide +kernel
theorem dX3_init_12 : decode cX3_init 12 = .ok (.newarray .int, 2) := by decide +kernel
theorem dX3_init_14 : decode cX3_init 14 = .ok (.putfield 15, 3) := by decide +kernel
theorem dX3_init_17 : decode cX3_init 17 = .ok (.aload_n 0, 1) := by decide +kernel
theorem dX3_init_18 : decode cX3_init 18 = .ok (.bipush 8, 2) := by decide +kernel
theorem dX3_init_20 : decode cX3_init 20 = .ok (.newarray .int, 2) := by decide +kernel
theorem dX3_init_22 : decode cX3_init 22 = .ok (.putfield 19, 3) := by decide +kernel
theorem dX3_init_25 : decode cX3_init 25 = .ok (.aload_n 0, 1) := by decide +kernel
theorem dX3_init_26 : decode cX3_init 26 = .ok (.bipush 8, 2) := by decide +kernel
theorem dX3_init_28 : decode cX3_init 28 = .ok (.newarray .int, 2) := by decide +kernel
theorem dX3_init_30 : decode cX3_init 30 = .ok (.putfield 22, 3) := by decide +kernel
theorem dX3_init_33 : decode cX3_init 33 = .ok (.return_, 1) := by decide +kernel
theorem dX3_write_0 : decode cX3_write 0 = .ok (.aload_n 0, 1) := by decide +kernel
theorem dX3_write_1 : decode cX3_write 1 = .ok (.getfield 9, 3) := by decide +kernel
theorem dX3_write_4 : decode cX3_write 4 = .ok (.istore 4, 2) := by decide +kernel
theorem dX3_write_6 : decode cX3_write 6 = .ok (.aload_n 0, 1) := by decide +kernel
theorem dX3_write_7 : decode cX3_write 7 = .ok (.getfield 15, 3) := by decide +kernel
theorem dX3_write_10 : decode cX3_write 10 = .ok (.iload 4, 2) := by decide +kernel
theorem dX3_write_12 : decode cX3_write 12 = .ok (.iload_n 1, 1) := by decide +kernel
theorem dX3_write_13 : decode cX3_write 13 = .ok (.iastore, 1) := by decide +kernel
theorem dX3_write_14 : decode cX3_write 14 = .ok (.aload_n 0, 1) := by decide +kernel
theorem dX3_write_15 : decode cX3_write 15 = .ok (.getfield 19, 3) := by decide +kernel
theorem dX3_write_18 : decode cX3_write 18 = .ok (.iload 4, 2) := by decide +kernel
theorem dX3_write_20 : decode cX3_write 20 = .ok (.iload_n 2, 1) := by decide +kernel
theorem dX3_write_21 : decode cX3_write 21 = .ok (.iastore, 1) := by decide +kernel
theorem dX3_write_22 : decode cX3_write 22 = .ok (.aload_n 0, 1) := by decide +kernel
theorem dX3_write_23 : decode cX3_write 23 = .ok (.getfield 22, 3) := by decide +kernel
theorem dX3_write_26 : decode cX3_write 26 = .ok (.iload 4, 2) := by decide +kernel
theorem dX3_write_28 : decode cX3_write 28 = .ok (.iload_n 3, 1) := by decide +kernel
theorem dX3_write_29 : decode cX3_write 29 = .ok (.iastore, 1) := by decide +kernel
theorem dX3_write_30 : decode cX3_write 30 = .ok (.aload_n 0, 1) := by decide +kernel
theorem dX3_write_31 : decode cX3_write 31 = .ok (.dup, 1) := by decide +kernel
theorem dX3_write_32 : decode cX3_write 32 = .ok (.getfield 9, 3) := by decide +kernel
theorem dX3_write_35 : decode cX3_write 35 = .ok (.iconst 1, 1) := by decide +kernel
theorem dX3_write_36 : decode cX3_write 36 = .ok (.iadd, 1) := by decide +kernel
theorem dX3_write_37 : decode cX3_write 37 = .ok (.putfield 9, 3) := by decide +kernel
theorem dX3_write_40 : decode cX3_write 40 = .ok (.iload 4, 2) := by decide +kernel
theorem dX3_write_42 : decode cX3_write 42 = .ok (.ireturn, 1) := by decide +kernel
set_option maxRecDepth 20000 in
theorem ggX3_areSo_X2_bears : GoodIn wsX3_areSo wsX2_bears := goodIn_r _ [9, 10, 11, 12, 13, 14, 19, 20, 21, 22, 23, 24] (by decide +kernel) (by decide +kernel)
set_option maxRecDepth 20000 in
theorem gX3_areSo_X2_bears : GoodIn wsX3_areSo (wsV RX3 25 RX2 yX2_bears wsX2_bears) := goodIn_app (goodIn_of _ (by decide +kernel)) ggX3_areSo_X2_bears
theorem dX3_areSo_0 : decode cX3_areSo 0 = .ok (.iconst 0, 1) := by decide +kernel
theorem dX3_areSo_1 : decode cX3_areSo 1 = .ok (.istore 4, 2) := by decide +kernel
theorem dX3_areSo_3 : decode cX3_areSo 3 = .ok (.iload 4, 2) := by decide +kernel
theorem dX3_areSo_5 : decode cX3_areSo 5 = .ok (.aload_n 0, 1) := by decide +kernel
theorem dX3_areSo_6 : decode cX3_areSo 6 = .ok (.getfield 9, 3) := by decide +kernel
theorem dX3_areSo_9 : decode cX3_areSo 9 = .ok (.if_icmp .ge 70, 3) := by decide +kernel
theorem dX3_areSo_12 : decode cX3_areSo 12 = .ok (.aload_n 0, 1) := by decide +kernel
theorem dX3_areSo_13 : decode cX3_areSo 13 = .ok (.getfield 15, 3) := by decide +kernel
theorem dX3_areSo_16 : decode cX3_areSo 16 = .ok (.iload 4, 2) := by decide +kernel
theorem dX3_areSo_18 : decode cX3_areSo 18 = .ok (.iaload, 1) := by decide +kernel
theorem dX3_areSo_19 : decode cX3_areSo 19 = .ok (.iload_n 2, 1) := by decide +kernel
theorem dX3_areSo_20 : decode cX3_areSo 20 = .ok (.if_icmp .ne 7, 3) := by decide +kernel
theorem dX3_areSo_23 : decode cX3_areSo 23 = .ok (.iload_n 3, 1) := by decide +kernel
theorem dX3_areSo_24 : decode cX3_areSo 24 = .ok (.goto 14, 3) := by decide +kernel
theorem dX3_areSo_27 : decode cX3_areSo 27 = .ok (.aload_n 1, 1) := by decide +kernel
theorem dX3_areSo_28 : decode cX3_areSo 28 = .ok (.aload_n 0, 1) := by decide +kernel
theorem dX3_areSo_29 : decode cX3_areSo 29 = .ok (.getfield 15, 3) := by decide +kernel
theorem dX3_areSo_32 : decode cX3_areSo 32 = .ok (.iload 4, 2) := by decide +kernel
theorem dX3_areSo_34 : decode cX3_areSo 34 = .ok (.iaload, 1) := by decide +kernel
theorem dX3_areSo_35 : decode cX3_areSo 35 = .ok (.invokevirtual 25, 3) := by decide +kernel
theorem dX3_areSo_38 : decode cX3_areSo 38 = .ok (.istore 5, 2) := by decide +kernel
theorem dX3_areSo_40 : decode cX3_areSo 40 = .ok (.aload_n 0, 1) := by decide +kernel
theorem dX3_areSo_41 : decode cX3_areSo 41 = .ok (.getfield 19, 3) := by decide +kernel
theorem dX3_areSo_44 : decode cX3_areSo 44 = .ok (.iload 4, 2) := by decide +kernel
theorem dX3_areSo_46 : decode cX3_areSo 46 = .ok (.iaload, 1) := by decide +kernel
theorem dX3_areSo_47 : decode cX3_areSo 47 = .ok (.iload 5, 2) := by decide +kernel
theorem dX3_areSo_49 : decode cX3_areSo 49 = .ok (.if_icmp .le 7, 3) := by decide +kernel
theorem dX3_areSo_52 : decode cX3_areSo 52 = .ok (.iconst 1, 1) := by decide +kernel
theorem dX3_areSo_53 : decode cX3_areSo 53 = .ok (.goto 4, 3) := by decide +kernel
theorem dX3_areSo_56 : decode cX3_areSo 56 = .ok (.iconst 0, 1) := by decide +kernel
theorem dX3_areSo_57 : decode cX3_areSo 57 = .ok (.istore 6, 2) := by decide +kernel
theorem dX3_areSo_59 : decode cX3_areSo 59 = .ok (.iload 6, 2) := by decide +kernel
theorem dX3_areSo_61 : decode cX3_areSo 61 = .ok (.aload_n 0, 1) := by decide +kernel
theorem dX3_areSo_62 : decode cX3_areSo 62 = .ok (.getfield 22, 3) := by decide +kernel
theorem dX3_areSo_65 : decode cX3_areSo 65 = .ok (.iload 4, 2) := by decide +kernel
theorem dX3_areSo_67 : decode cX3_areSo 67 = .ok (.iaload, 1) := by decide +kernel
theorem dX3_areSo_68 : decode cX3_areSo 68 = .ok (.if_icmp .eq 5, 3) := by decide +kernel
theorem dX3_areSo_71 : decode cX3_areSo 71 = .ok (.iconst 0, 1) := by decide +kernel
theorem dX3_areSo_72 : decode cX3_areSo 72 = .ok (.ireturn, 1) := by decide +kernel
theorem dX3_areSo_73 : decode cX3_areSo 73 = .ok (.iinc 4 1, 3) := by decide +kernel
theorem dX3_areSo_76 : decode cX3_areSo 76 = .ok (.goto (-73), 3) := by decide +kernel
theorem dX3_areSo_79 : decode cX3_areSo 79 = .ok (.iconst 1, 1) := by decide +kernel
theorem dX3_areSo_80 : decode cX3_areSo 80 = .ok (.ireturn, 1) := by decide +kernel
theorem dX4_init_0 : decode cX4_init 0 = .ok (.aload_n 0, 1) := by decide +kernel
theorem dX4_init_1 : decode cX4_init 1 = .ok (.invokespecial 3, 3) := by decide +kernel
theorem dX4_init_4 : decode cX4_init 4 = .ok (.aload_n 0, 1) := by decide +kernel
theorem dX4_init_5 : decode cX4_init 5 = .ok (.bipush 6, 2) := by decide +kernel
theorem dX4_init_7 : decode cX4_init 7 = .ok (.newarray .int, 2) := by decide +kernel
theorem dX4_init_9 : decode cX4_init 9 = .ok (.putfield 9, 3) := by decide +kernel
theorem dX4_init_12 : decode cX4_init 12 = .ok (.aload_n 0, 1) := by decide +kernel
theorem dX4_init_13 : decode cX4_init 13 = .ok (.bipush 6, 2) := by decide +kernel
theorem dX4_init_15 : decode cX4_init 15 = .ok (.newarray .int, 2) := by decide +kernel
theorem dX4_init_17 : decode cX4_init 17 = .ok (.putfield 15, 3) := by decide +kernel
theorem dX4_init_20 : decode cX4_init 20 = .ok (.aload_n 0, 1) := by decide +kernel
theorem dX4_init_21 : decode cX4_init 21 = .ok (.iconst (-1), 1) := by decide +kernel
theorem dX4_init_22 : decode cX4_init 22 = .ok (.putfield 18, 3) := by decide +kernel
theorem dX4_init_25 : decode cX4_init 25 = .ok (.return_, 1) := by decide +kernel
theorem dX4_keep_0 : decode cX4_keep 0 = .ok (.aload_n 0, 1) := by decide +kernel
theorem dX4_keep_1 : decode cX4_keep 1 = .ok (.iload_n 1, 1) := by decide +kernel
theorem dX4_keep_2 : decode cX4_keep 2 = .ok (.putfield 18, 3) := by decide +kernel
theorem dX4_keep_5 : decode cX4_keep 5 = .ok (.aload_n 0, 1) := by decide +kernel
theorem dX4_keep_6 : decode cX4_keep 6 = .ok (.getfield 9, 3) := by decide +kernel
theorem dX4_keep_9 : decode cX4_keep 9 = .ok (.iconst 0, 1) := by decide +kernel
theorem dX4_keep_10 : decode cX4_keep 10 = .ok (.aload_n 0, 1) := by decide +kernel
theorem dX4_keep_11 : decode cX4_keep 11 = .ok (.getfield 15, 3) := by decide +kernel
theorem dX4_keep_14 : decode cX4_keep 14 = .ok (.iconst 0, 1) := by decide +kernel
theorem dX4_keep_15 : decode cX4_keep 15 = .ok (.bipush 6, 2) := by decide +kernel
theorem dX4_keep_17 : decode cX4_keep 17 = .ok (.invokestatic 22, 3) := by decide +kernel
theorem dX4_keep_20 : decode cX4_keep 20 = .ok (.return_, 1) := by decide +kernel
theorem dX5_init_0 : decode cX5_init 0 = .ok (.aload_n 0, 1) := by decide +kernel
theorem dX5_init_1 : decode cX5_init 1 = .ok (.invokespecial 3, 3) := by decide +kernel
theorem dX5_init_4 : decode cX5_init 4 = .ok (.aload_n 0, 1) := by decide +kernel
theorem dX5_init_5 : decode cX5_init 5 = .ok (.iconst 0, 1) := by decide +kernel
theorem dX5_init_6 : decode cX5_init 6 = .ok (.putfield 9, 3) := by decide +kernel
theorem dX5_init_9 : decode cX5_init 9 = .ok (.aload_n 0, 1) := by decide +kernel
theorem dX5_init_10 : decode cX5_init 10 = .ok (.iconst 0, 1) := by decide +kernel
theorem dX5_init_11 : decode cX5_init 11 = .ok (.putfield 15, 3) := by decide +kernel
theorem dX5_init_14 : decode cX5_init 14 = .ok (.aload_n 0, 1) := by decide +kernel
theorem dX5_init_15 : decode cX5_init 15 = .ok (.bipush 60, 2) := by decide +kernel
theorem dX5_init_17 : decode cX5_init 17 = .ok (.newarray .int, 2) := by decide +kernel
theorem dX5_init_19 : decode cX5_init 19 = .ok (.putfield 19, 3) := by decide +kernel
theorem dX5_init_22 : decode cX5_init 22 = .ok (.aload_n 0, 1) := by decide +kernel
theorem dX5_init_23 : decode cX5_init 23 = .ok (.iconst 0, 1) := by decide +kernel
theorem dX5_init_24 : decode cX5_init 24 = .ok (.putfield 23, 3) := by decide +kernel
theorem dX5_init_27 : decode cX5_init 27 = .ok (.return_, 1) := by decide +kernel
theorem dX5_begin_0 : decode cX5_begin 0 = .ok (.aload_n 0, 1) := by decide +kernel
theorem dX5_begin_1 : decode cX5_begin 1 = .ok (.iconst 1, 1) := by decide +kernel
theorem dX5_begin_2 : decode cX5_begin 2 = .ok (.putfield 9, 3) := by decide +kernel
theorem dX5_begin_5 : decode cX5_begin 5 = .ok (.aload_n 0, 1) := by decide +kernel
theorem dX5_begin_6 : decode cX5_begin 6 = .ok (.iload_n 1, 1) := by decide +kernel
theorem dX5_begin_7 : decode cX5_begin 7 = .ok (.putfield 15, 3) := by decide +kernel
theorem dX5_begin_10 : decode cX5_begin 10 = .ok (.aload_n 0, 1) := by decide +kernel
theorem dX5_begin_11 : decode cX5_begin 11 = .ok (.iload_n 2, 1) := by decide +kernel
theorem dX5_begin_12 : decode cX5_begin 12 = .ok (.putfield 23, 3) := by decide +kernel
theorem dX5_begin_15 : decode cX5_begin 15 = .ok (.iconst 0, 1) := by decide +kernel
theorem dX5_begin_16 : decode cX5_begin 16 = .ok (.istore_n 3, 1) := by decide +kernel
theorem dX5_begin_17 : decode cX5_begin 17 = .ok (.iload_n 3, 1) := by decide +kernel
theorem dX5_begin_18 : decode cX5_begin 18 = .ok (.bipush 60, 2) := by decide +kernel
theorem dX5_begin_20 : decode cX5_begin 20 = .ok (.if_icmp .ge 16, 3) := by decide +kernel
theorem dX5_begin_23 : decode cX5_begin 23 = .ok (.aload_n 0, 1) := by decide +kernel
theorem dX5_begin_24 : decode cX5_begin 24 = .ok (.getfield 19, 3) := by decide +kernel
theorem dX5_begin_27 : decode cX5_begin 27 = .ok (.iload_n 3, 1) := by decide +kernel
theorem dX5_begin_28 : decode cX5_begin 28 = .ok (.iconst 0, 1) := by decide +kernel
theorem dX5_begin_29 : decode cX5_begin 29 = .ok (.iastore, 1) := by decide +kernel
theorem dX5_begin_30 : decode cX5_begin 30 = .ok (.iinc 3 1, 3) := by decide +kernel
theorem dX5_begin_33 : decode cX5_begin 33 = .ok (.goto (-16), 3) := by decide +kernel
theorem dX5_begin_36 : decode cX5_begin 36 = .ok (.return_, 1) := by decide +kernel
theorem dX5_hasCells_0 : decode cX5_hasCells 0 = .ok (.iload_n 1, 1) := by decide +kernel
theorem dX5_hasCells_1 : decode cX5_hasCells 1 = .ok (.ifCond .lt 25, 3) := by decide +kernel
theorem dX5_hasCells_4 : decode cX5_hasCells 4 = .ok (.iload_n 1, 1) := by decide +kernel
theorem dX5_hasCells_5 : decode cX5_hasCells 5 = .ok (.aload_n 0, 1) := by decide +kernel
theorem dX5_hasCells_6 : decode cX5_hasCells 6 = .ok (.getfield 23, 3) := by decide +kernel
theorem dX5_hasCells_9 : decode cX5_hasCells 9 = .ok (.if_icmp .gt 17, 3) := by decide +kernel
theorem dX5_hasCells_12 : decode cX5_hasCells 12 = .ok (.iload_n 2, 1) := by decide +kernel
theorem dX5_hasCells_13 : decode cX5_hasCells 13 = .ok (.aload_n 0, 1) := by decide +kernel
theorem dX5_hasCells_14 : decode cX5_hasCells 14 = .ok (.getfield 23, 3) := by decide +kernel
theorem dX5_hasCells_17 : decode cX5_hasCells 17 = .ok (.iload_n 1, 1) := by decide +kernel
theorem dX5_hasCells_18 : decode cX5_hasCells 18 = .ok (.isub, 1) := by decide +kernel
theorem dX5_hasCells_19 : decode cX5_hasCells 19 = .ok (.if_icmp .gt 7, 3) := by decide +kernel
theorem dX5_hasCells_22 : decode cX5_hasCells 22 = .ok (.iconst 1, 1) := by decide +kernel
theorem dX5_hasCells_23 : decode cX5_hasCells 23 = .ok (.goto 4, 3) := by decide +kernel
theorem dX5_hasCells_26 : decode cX5_hasCells 26 = .ok (.iconst 0, 1) := by decide +kernel
theorem dX5_hasCells_27 : decode cX5_hasCells 27 = .ok (.ireturn, 1) := by decide +kernel
set_option maxRecDepth 20000 in
theorem ggX5_faultOfCells_X5_hasCells : GoodIn wsX5_faultOfCells wsX5_hasCells := goodIn_r _ [7, 8, 9, 10, 11, 12] (by decide +kernel) (by decide +kernel)
set_option maxRecDepth 20000 in
theorem gX5_faultOfCells_X5_hasCells : GoodIn wsX5_faultOfCells (wsV RX5 26 RX5 yX5_hasCells wsX5_hasCells) := goodIn_app (goodIn_of _ (by decide +kernel)) ggX5_faultOfCells_X5_hasCells
theorem dX5_faultOfCells_0 : decode cX5_faultOfCells 0 = .ok (.aload_n 0, 1) := by decide +kernel
theorem dX5_faultOfCells_1 : decode cX5_faultOfCells 1 = .ok (.getfield 9, 3) := by decide +kernel
theorem dX5_faultOfCells_4 : decode cX5_faultOfCells 4 = .ok (.ifCond .ne 5, 3) := by decide +kernel
theorem dX5_faultOfCells_7 : decode cX5_faultOfCells 7 = .ok (.iconst 1, 1) := by decide +kernel
theorem dX5_faultOfCells_8 : decode cX5_faultOfCells 8 = .ok (.ireturn, 1) := by decide +kernel
theorem dX5_faultOfCells_9 : decode cX5_faultOfCells 9 = .ok (.aload_n 0, 1) := by decide +kernel
theorem dX5_faultOfCells_10 : decode cX5_faultOfCells 10 = .ok (.getfield 15, 3) := by decide +kernel
theorem dX5_faultOfCells_13 : decode cX5_faultOfCells 13 = .ok (.iload_n 1, 1) := by decide +kernel
theorem dX5_faultOfCells_14 : decode cX5_faultOfCells 14 = .ok (.if_icmp .eq 5, 3) := by decide +kernel
theorem dX5_faultOfCells_17 : decode cX5_faultOfCells 17 = .ok (.iconst 2, 1) := by decide +kernel
theorem dX5_faultOfCells_18 : decode cX5_faultOfCells 18 = .ok (.ireturn, 1) := by decide +kernel
theorem dX5_faultOfCells_19 : decode cX5_faultOfCells 19 = .ok (.iload_n 3, 1) := by decide +kernel
theorem dX5_faultOfCells_20 : decode cX5_faultOfCells 20 = .ok (.ifCond .ge 5, 3) := by decide +kernel
theorem dX5_faultOfCells_23 : decode cX5_faultOfCells 23 = .ok (.iconst 4, 1) := by decide +kernel
theorem dX5_faultOfCells_24 : decode cX5_faultOfCells 24 = .ok (.ireturn, 1) := by decide +kernel
theorem dX5_faultOfCells_25 : decode cX5_faultOfCells 25 = .ok (.aload_n 0, 1) := by decide +kernel
theorem dX5_faultOfCells_26 : decode cX5_faultOfCells 26 = .ok (.iload_n 2, 1) := by decide +kernel
theorem dX5_faultOfCells_27 : decode cX5_faultOfCells 27 = .ok (.iload_n 3, 1) := by decide +kernel
theorem dX5_faultOfCells_28 : decode cX5_faultOfCells 28 = .ok (.invokevirtual 26, 3) := by decide +kernel
theorem dX5_faultOfCells_31 : decode cX5_faultOfCells 31 = .ok (.ifCond .eq 7, 3) := by decide +kernel
theorem dX5_faultOfCells_34 : decode cX5_faultOfCells 34 = .ok (.iconst 0, 1) := by decide +kernel
theorem dX5_faultOfCells_35 : decode cX5_faultOfCells 35 = .ok (.goto 4, 3) := by decide +kernel
theorem dX5_faultOfCells_38 : decode cX5_faultOfCells 38 = .ok (.iconst 3, 1) := by decide +kernel
theorem dX5_faultOfCells_39 : decode cX5_faultOfCells 39 = .ok (.ireturn, 1) := by decide +kernel
set_option maxRecDepth 20000 in
theorem ggX6_init_X2_init : GoodIn wsX6_init wsX2_init := goodIn_r _ [35, 36, 2, 3, 37, 38, 23, 39, 40, 41, 42, 85, 86, 87, 88, 89, 90] (by decide +kernel) (by decide +kernel)
set_option maxRecDepth 20000 in
theorem gX6_init_X2_init_n19 : GoodIn wsX6_init (wsX2_init) := ggX6_init_X2_init
set_option maxRecDepth 20000 in
theorem ggX6_init_X0_init : GoodIn wsX6_init wsX0_init := goodIn_r _ [44, 45, 2, 3, 23, 46, 47, 91, 92] (by decide +kernel) (by decide +kernel)
set_option maxRecDepth 20000 in
theorem gX6_init_X0_init_n26 : GoodIn wsX6_init (wsX0_init) := ggX6_init_X0_init
set_option maxRecDepth 20000 in
theorem ggX6_init_X3_init : GoodIn wsX6_init wsX3_init := goodIn_r _ [49, 50, 2, 3, 51, 23, 52, 53, 54, 93, 94, 95, 96] (by decide +kernel) (by decide +kernel)
set_option maxRecDepth 20000 in
theorem gX6_init_X3_init_n33 : GoodIn wsX6_init (wsX3_init) := ggX6_init_X3_init
set_option maxRecDepth 20000 in
theorem ggX6_init_X1_init : GoodIn wsX6_init wsX1_init := goodIn_r _ [56, 57, 2, 3, 58, 23, 59, 60, 97, 98, 99] (by decide +kernel) (by decide +kernel)
set_option maxRecDepth 20000 in
theorem gX6_init_X1_init_n40 : GoodIn wsX6_init (wsX1_init) := ggX6_init_X1_init
set_option maxRecDepth 20000 in
theorem ggX6_init_X4_init : GoodIn wsX6_init wsX4_init := goodIn_r _ [62, 63, 2, 3, 23, 64, 65, 66, 100, 101, 102] (by decide +kernel) (by decide +kernel)
set_option maxRecDepth 20000 in
theorem gX6_init_X4_init_n55 : GoodIn wsX6_init (wsX4_init) := ggX6_init_X4_init
set_option maxRecDepth 20000 in
theorem ggX6_init_X5_init : GoodIn wsX6_init wsX5_init := goodIn_r _ [68, 69, 2, 3, 70, 71, 23, 72, 73, 103, 104, 105, 106] (by decide +kernel) (by decide +kernel)
set_option maxRecDepth 20000 in
theorem gX6_init_X5_init_n70 : GoodIn wsX6_init (wsX5_init) := ggX6_init_X5_init
theorem dX6_init_0 : decode cX6_init 0 = .ok (.aload_n 0, 1) := by decide +kernel
theorem dX6_init_1 : decode cX6_init 1 = .ok (.invokespecial 3, 3) := by decide +kernel
theorem dX6_init_4 : decode cX6_init 4 = .ok (.aload_n 0, 1) := by decide +kernel
theorem dX6_init_5 : decode cX6_init 5 = .ok (.iconst 4, 1) := by decide +kernel
theorem dX6_init_6 : decode cX6_init 6 = .ok (.anewarray 11, 3) := by decide +kernel
theorem dX6_init_9 : decode cX6_init 9 = .ok (.putfield 13, 3) := by decide +kernel
theorem dX6_init_12 : decode cX6_init 12 = .ok (.aload_n 0, 1) := by decide +kernel
theorem dX6_init_13 : decode cX6_init 13 = .ok (.new 17, 3) := by decide +kernel
theorem dX6_init_16 : decode cX6_init 16 = .ok (.dup, 1) := by decide +kernel
theorem dX6_init_17 : decode cX6_init 17 = .ok (.invokespecial 19, 3) := by decide +kernel
theorem dX6_init_20 : decode cX6_init 20 = .ok (.putfield 20, 3) := by decide +kernel
theorem dX6_init_23 : decode cX6_init 23 = .ok (.aload_n 0, 1) := by decide +kernel
theorem dX6_init_24 : decode cX6_init 24 = .ok (.new 24, 3) := by decide +kernel
theorem dX6_init_27 : decode cX6_init 27 = .ok (.dup, 1) := by decide +kernel
theorem dX6_init_28 : decode cX6_init 28 = .ok (.invokespecial 26, 3) := by decide +kernel
theorem dX6_init_31 : decode cX6_init 31 = .ok (.putfield 27, 3) := by decide +kernel
theorem dX6_init_34 : decode cX6_init 34 = .ok (.aload_n 0, 1) := by decide +kernel
theorem dX6_init_35 : decode cX6_init 35 = .ok (.new 31, 3) := by decide +kernel
theorem dX6_init_38 : decode cX6_init 38 = .ok (.dup, 1) := by decide +kernel
theorem dX6_init_39 : decode cX6_init 39 = .ok (.invokespecial 33, 3) := by decide +kernel
theorem dX6_init_42 : decode cX6_init 42 = .ok (.putfield 34, 3) := by decide +kernel
theorem dX6_init_45 : decode cX6_init 45 = .ok (.aload_n 0, 1) := by decide +kernel
theorem dX6_init_46 : decode cX6_init 46 = .ok (.new 38, 3) := by decide +kernel
theorem dX6_init_49 : decode cX6_init 49 = .ok (.dup, 1) := by decide +kernel
theorem dX6_init_50 : decode cX6_init 50 = .ok (.invokespecial 40, 3) := by decide +kernel
theorem dX6_init_53 : decode cX6_init 53 = .ok (.putfield 41, 3) := by decide +kernel
theorem dX6_init_56 : decode cX6_init 56 = .ok (.aload_n 0, 1) := by decide +kernel
theorem dX6_init_57 : decode cX6_init 57 = .ok (.bipush 7, 2) := by decide +kernel
theorem dX6_init_59 : decode cX6_init 59 = .ok (.anewarray 24, 3) := by decide +kernel
theorem dX6_init_62 : decode cX6_init 62 = .ok (.putfield 45, 3) := by decide +kernel
theorem dX6_init_65 : decode cX6_init 65 = .ok (.aload_n 0, 1) := by decide +kernel
theorem dX6_init_66 : decode cX6_init 66 = .ok (.bipush 6, 2) := by decide +kernel
theorem dX6_init_68 : decode cX6_init 68 = .ok (.newarray .int, 2) := by decide +kernel
theorem dX6_init_70 : decode cX6_init 70 = .ok (.putfield 49, 3) := by decide +kernel
theorem dX6_init_73 : decode cX6_init 73 = .ok (.aload_n 0, 1) := by decide +kernel
theorem dX6_init_74 : decode cX6_init 74 = .ok (.new 53, 3) := by decide +kernel
theorem dX6_init_77 : decode cX6_init 77 = .ok (.dup, 1) := by decide +kernel
theorem dX6_init_78 : decode cX6_init 78 = .ok (.invokespecial 55, 3) := by decide +kernel
theorem dX6_init_81 : decode cX6_init 81 = .ok (.putfield 56, 3) := by decide +kernel
theorem dX6_init_84 : decode cX6_init 84 = .ok (.aload_n 0, 1) := by decide +kernel
theorem dX6_init_85 : decode cX6_init 85 = .ok (.iconst 0, 1) := by decide +kernel
theorem dX6_init_86 : decode cX6_init 86 = .ok (.putfield 60, 3) := by decide +kernel
theorem dX6_init_89 : decode cX6_init 89 = .ok (.aload_n 0, 1) := by decide +kernel
theorem dX6_init_90 : decode cX6_init 90 = .ok (.iconst 0, 1) := by decide +kernel
theorem dX6_init_91 : decode cX6_init 91 = .ok (.putfield 64, 3) := by decide +kernel
theorem dX6_init_94 : decode cX6_init 94 = .ok (.aload_n 0, 1) := by decide +kernel
theorem dX6_init_95 : decode cX6_init 95 = .ok (.iconst 0, 1) := by decide +kernel
theorem dX6_init_96 : decode cX6_init 96 = .ok (.putfield 67, 3) := by decide +kernel
theorem dX6_init_99 : decode cX6_init 99 = .ok (.iconst 0, 1) := by decide +kernel
theorem dX6_init_100 : decode cX6_init 100 = .ok (.istore_n 1, 1) := by decide +kernel
theorem dX6_init_101 : decode cX6_init 101 = .ok (.iload_n 1, 1) := by decide +kernel
theorem dX6_init_102 : decode cX6_init 102 = .ok (.iconst 4, 1) := by decide +kernel
theorem dX6_init_103 : decode cX6_init 103 = .ok (.if_icmp .ge 22, 3) := by decide +kernel
theorem dX6_init_106 : decode cX6_init 106 = .ok (.aload_n 0, 1) := by decide +kernel
theorem dX6_init_107 : decode cX6_init 107 = .ok (.getfield 13, 3) := by decide +kernel
theorem dX6_init_110 : decode cX6_init 110 = .ok (.iload_n 1, 1) := by decide +kernel
theorem dX6_init_111 : decode cX6_init 111 = .ok (.new 11, 3) := by decide +kernel
theorem dX6_init_114 : decode cX6_init 114 = .ok (.dup, 1) := by decide +kernel
theorem dX6_init_115 : decode cX6_init 115 = .ok (.invokespecial 70, 3) := by decide +kernel
theorem dX6_init_118 : decode cX6_init 118 = .ok (.aastore, 1) := by decide +kernel
theorem dX6_init_119 : decode cX6_init 119 = .ok (.iinc 1 1, 3) := by decide +kernel
theorem dX6_init_122 : decode cX6_init 122 = .ok (.goto (-21), 3) := by decide +kernel
theorem dX6_init_125 : decode cX6_init 125 = .ok (.iconst 0, 1) := by decide +kernel
theorem dX6_init_126 : decode cX6_init 126 = .ok (.istore_n 1, 1) := by decide +kernel
theorem dX6_init_127 : decode cX6_init 127 = .ok (.iload_n 1, 1) := by decide +kernel
theorem dX6_init_128 : decode cX6_init 128 = .ok (.bipush 6, 2) := by decide +kernel
theorem dX6_init_130 : decode cX6_init 130 = .ok (.if_icmp .gt 22, 3) := by decide +kernel
theorem dX6_init_133 : decode cX6_init 133 = .ok (.aload_n 0, 1) := by decide +kernel
theorem dX6_init_134 : decode cX6_init 134 = .ok (.getfield 45, 3) := by decide +kernel
theorem dX6_init_137 : decode cX6_init 137 = .ok (.iload_n 1, 1) := by decide +kernel
theorem dX6_init_138 : decode cX6_init 138 = .ok (.new 24, 3) := by decide +kernel
theorem dX6_init_141 : decode cX6_init 141 = .ok (.dup, 1) := by decide +kernel
theorem dX6_init_142 : decode cX6_init 142 = .ok (.invokespecial 26, 3) := by decide +kernel
theorem dX6_init_145 : decode cX6_init 145 = .ok (.aastore, 1) := by decide +kernel
theorem dX6_init_146 : decode cX6_init 146 = .ok (.iinc 1 1, 3) := by decide +kernel
theorem dX6_init_149 : decode cX6_init 149 = .ok (.goto (-22), 3) := by decide +kernel
theorem dX6_init_152 : decode cX6_init 152 = .ok (.return_, 1) := by decide +kernel
set_option maxRecDepth 20000 in
theorem ggX6_mine_X6_isSheet : GoodIn wsX6_mine wsX6_isSheet := goodIn_r _ [9] (by decide +kernel) (by decide +kernel)
set_option maxRecDepth 20000 in
theorem gX6_mine_X6_isSheet : GoodIn wsX6_mine (va_wsS RX6 71 yX6_isSheet wsX6_isSheet) := goodIn_app (goodIn_of _ (by decide +kernel)) ggX6_mine_X6_isSheet
set_option maxRecDepth 20000 in
theorem ggX6_mine_X6_isLane : GoodIn wsX6_mine wsX6_isLane := goodIn_r _ [12] (by decide +kernel) (by decide +kernel)
set_option maxRecDepth 20000 in
theorem gX6_mine_X6_isLane : GoodIn wsX6_mine (va_wsS RX6 75 yX6_isLane wsX6_isLane) := goodIn_app (goodIn_of _ (by decide +kernel)) ggX6_mine_X6_isLane
set_option maxRecDepth 20000 in
theorem ggX6_mine_X5_faultOfCells : GoodIn wsX6_mine wsX5_faultOfCells := goodIn_r _ [17, 18, 19, 20, 21, 22, 16, 23, 24, 78, 79, 80, 81] (by decide +kernel) (by decide +kernel)
set_option maxRecDepth 20000 in
theorem gX6_mine_X5_faultOfCells : GoodIn wsX6_mine (wsV RX6 78 RX5 yX5_faultOfCells wsX5_faultOfCells) := goodIn_app (goodIn_of _ (by decide +kernel)) ggX6_mine_X5_faultOfCells
set_option maxRecDepth 20000 in
theorem ggX6_mine_X6_faulted : GoodIn wsX6_mine wsX6_faulted := goodIn_r _ [28, 1, 67, 68, 69, 70, 71, 72, 73, 74, 75, 76, 77] (by decide +kernel) (by decide +kernel)
set_option maxRecDepth 20000 in
theorem gX6_mine_X6_faulted : GoodIn wsX6_mine (wsV RX6 82 RX6 yX6_faulted wsX6_faulted) := goodIn_app (goodIn_of _ (by decide +kernel)) ggX6_mine_X6_faulted
set_option maxRecDepth 20000 in
theorem ggX6_mine_X6_firstFaultOfText : GoodIn wsX6_mine wsX6_firstFaultOfText := goodIn_r _ [31, 32, 33, 8, 34, 35, 36, 37, 38, 39, 40, 41, 42, 43] (by decide +kernel) (by decide +kernel)
set_option maxRecDepth 20000 in
theorem gX6_mine_X6_firstFaultOfText : GoodIn wsX6_mine (va_wsS RX6 89 yX6_firstFaultOfText wsX6_firstFaultOfText) := goodIn_app (goodIn_of _ (by decide +kernel)) ggX6_mine_X6_firstFaultOfText
set_option maxRecDepth 20000 in
theorem ggX6_mine_X6_makeAnew : GoodIn wsX6_mine wsX6_makeAnew := goodIn_r _ [47, 4, 48, 49, 50, 51, 52, 53, 5, 54, 55, 56, 57, 58, 59, 60, 61, 62, 32, 33, 8, 34, 35, 36, 37, 41, 42, 43, 63, 64, 65, 66, 67, 68, 69, 70, 71, 72, 73, 74, 75, 76, 77, 82, 83, 84, 85, 86, 87, 88, 89, 90, 91, 92, 93] (by decide +kernel) (by decide +kernel)
set_option maxRecDepth 20000 in
theorem gX6_mine_X6_makeAnew : GoodIn wsX6_mine (wsV RX6 93 RX6 yX6_makeAnew wsX6_makeAnew) := goodIn_app (goodIn_of _ (by decide +kernel)) ggX6_mine_X6_makeAnew
theorem dX6_mine_0 : decode cX6_mine 0 = .ok (.aload_n 0, 1) := by decide +kernel
theorem dX6_mine_1 : decode cX6_mine 1 = .ok (.iconst 0, 1) := by decide +kernel
theorem dX6_mine_2 : decode cX6_mine 2 = .ok (.putfield 67, 3) := by decide +kernel
theorem dX6_mine_5 : decode cX6_mine 5 = .ok (.iload_n 1, 1) := by decide +kernel
theorem dX6_mine_6 : decode cX6_mine 6 = .ok (.invokestatic 71, 3) := by decide +kernel
theorem dX6_mine_9 : decode cX6_mine 9 = .ok (.ifCond .ne 5, 3) := by decide +kernel
theorem dX6_mine_12 : decode cX6_mine 12 = .ok (.iconst (-1), 1) := by decide +kernel
theorem dX6_mine_13 : decode cX6_mine 13 = .ok (.ireturn, 1) := by decide +kernel
theorem dX6_mine_14 : decode cX6_mine 14 = .ok (.iload_n 2, 1) := by decide +kernel
theorem dX6_mine_15 : decode cX6_mine 15 = .ok (.invokestatic 75, 3) := by decide +kernel
theorem dX6_mine_18 : decode cX6_mine 18 = .ok (.ifCond .ne 6, 3) := by decide +kernel
theorem dX6_mine_21 : decode cX6_mine 21 = .ok (.bipush (-2), 2) := by decide +kernel
theorem dX6_mine_23 : decode cX6_mine 23 = .ok (.ireturn, 1) := by decide +kernel
theorem dX6_mine_24 : decode cX6_mine 24 = .ok (.aload_n 0, 1) := by decide +kernel
theorem dX6_mine_25 : decode cX6_mine 25 = .ok (.getfield 13, 3) := by decide +kernel
theorem dX6_mine_28 : decode cX6_mine 28 = .ok (.iload_n 1, 1) := by decide +kernel
theorem dX6_mine_29 : decode cX6_mine 29 = .ok (.aaload, 1) := by decide +kernel
theorem dX6_mine_30 : decode cX6_mine 30 = .ok (.astore 5, 2) := by decide +kernel
theorem dX6_mine_32 : decode cX6_mine 32 = .ok (.aload 5, 2) := by decide +kernel
theorem dX6_mine_34 : decode cX6_mine 34 = .ok (.iload_n 2, 1) := by decide +kernel
theorem dX6_mine_35 : decode cX6_mine 35 = .ok (.iload_n 3, 1) := by decide +kernel
theorem dX6_mine_36 : decode cX6_mine 36 = .ok (.iload 4, 2) := by decide +kernel
theorem dX6_mine_38 : decode cX6_mine 38 = .ok (.invokevirtual 78, 3) := by decide +kernel
theorem dX6_mine_41 : decode cX6_mine 41 = .ok (.istore 6, 2) := by decide +kernel
theorem dX6_mine_43 : decode cX6_mine 43 = .ok (.iload 6, 2) := by decide +kernel
theorem dX6_mine_45 : decode cX6_mine 45 = .ok (.ifCond .eq 10, 3) := by decide +kernel
theorem dX6_mine_48 : decode cX6_mine 48 = .ok (.aload_n 0, 1) := by decide +kernel
theorem dX6_mine_49 : decode cX6_mine 49 = .ok (.iload 6, 2) := by decide +kernel
theorem dX6_mine_51 : decode cX6_mine 51 = .ok (.invokevirtual 82, 3) := by decide +kernel
theorem dX6_mine_54 : decode cX6_mine 54 = .ok (.ireturn, 1) := by decide +kernel
theorem dX6_mine_55 : decode cX6_mine 55 = .ok (.aload 5, 2) := by decide +kernel
theorem dX6_mine_57 : decode cX6_mine 57 = .ok (.getfield 86, 3) := by decide +kernel
theorem dX6_mine_60 : decode cX6_mine 60 = .ok (.iload_n 3, 1) := by decide +kernel
theorem dX6_mine_61 : decode cX6_mine 61 = .ok (.iload 4, 2) := by decide +kernel
theorem dX6_mine_63 : decode cX6_mine 63 = .ok (.invokestatic 89, 3) := by decide +kernel
theorem dX6_mine_66 : decode cX6_mine 66 = .ok (.istore 7, 2) := by decide +kernel
theorem dX6_mine_68 : decode cX6_mine 68 = .ok (.iload 7, 2) := by decide +kernel
theorem dX6_mine_70 : decode cX6_mine 70 = .ok (.bipush (-9), 2) := by decide +kernel
theorem dX6_mine_72 : decode cX6_mine 72 = .ok (.if_icmp .eq 9, 3) := by decide +kernel
theorem dX6_mine_75 : decode cX6_mine 75 = .ok (.bipush (-100), 2) := by decide +kernel
theorem dX6_mine_77 : decode cX6_mine 77 = .ok (.iload 7, 2) := by decide +kernel
theorem dX6_mine_79 : decode cX6_mine 79 = .ok (.isub, 1) := by decide +kernel
theorem dX6_mine_80 : decode cX6_mine 80 = .ok (.ireturn, 1) := by decide +kernel
theorem dX6_mine_81 : decode cX6_mine 81 = .ok (.aload_n 0, 1) := by decide +kernel
theorem dX6_mine_82 : decode cX6_mine 82 = .ok (.aload 5, 2) := by decide +kernel
theorem dX6_mine_84 : decode cX6_mine 84 = .ok (.getfield 86, 3) := by decide +kernel
theorem dX6_mine_87 : decode cX6_mine 87 = .ok (.iload_n 3, 1) := by decide +kernel
theorem dX6_mine_88 : decode cX6_mine 88 = .ok (.iload 4, 2) := by decide +kernel
theorem dX6_mine_90 : decode cX6_mine 90 = .ok (.invokevirtual 93, 3) := by decide +kernel
theorem dX6_mine_93 : decode cX6_mine 93 = .ok (.aload_n 0, 1) := by decide +kernel
theorem dX6_mine_94 : decode cX6_mine 94 = .ok (.getfield 20, 3) := by decide +kernel
theorem dX6_mine_97 : decode cX6_mine 97 = .ok (.getfield 97, 3) := by decide +kernel
theorem dX6_mine_100 : decode cX6_mine 100 = .ok (.ireturn, 1) := by decide +kernel
set_option maxRecDepth 20000 in
theorem ggX6_ofGallery_X6_isGallery : GoodIn wsX6_ofGallery wsX6_isGallery := goodIn_r _ [12, 1, 13, 27, 28, 29, 30, 31, 32, 33, 34, 35, 36, 37, 38, 39, 40, 41, 42, 43] (by decide +kernel) (by decide +kernel)
set_option maxRecDepth 20000 in
theorem gX6_ofGallery_X6_isGallery : GoodIn wsX6_ofGallery (wsV RX6 100 RX6 yX6_isGallery wsX6_isGallery) := goodIn_app (goodIn_of _ (by decide +kernel)) ggX6_ofGallery_X6_isGallery
set_option maxRecDepth 20000 in
theorem ggX6_ofGallery_X2_bears : GoodIn wsX6_ofGallery wsX2_bears := goodIn_r _ [18, 19, 20, 21, 11, 22, 38, 39, 40, 41, 42, 43] (by decide +kernel) (by decide +kernel)
set_option maxRecDepth 20000 in
theorem gX6_ofGallery_X2_bears : GoodIn wsX6_ofGallery (wsV RX6 112 RX2 yX2_bears wsX2_bears) := goodIn_app (goodIn_of _ (by decide +kernel)) ggX6_ofGallery_X2_bears
set_option maxRecDepth 20000 in
theorem ggX6_ofGallery_X6_isDoor : GoodIn wsX6_ofGallery wsX6_isDoor := goodIn_r _ [26, 1, 13, 27, 28, 29, 30, 31, 32, 33, 34, 35, 36, 37, 38, 39, 40, 41, 42, 43] (by decide +kernel) (by decide +kernel)
set_option maxRecDepth 20000 in
theorem gX6_ofGallery_X6_isDoor : GoodIn wsX6_ofGallery (wsV RX6 118 RX6 yX6_isDoor wsX6_isDoor) := goodIn_app (goodIn_of _ (by decide +kernel)) ggX6_ofGallery_X6_isDoor
theorem dX6_ofGallery_0 : decode cX6_ofGallery 0 = .ok (.aload_n 0, 1) := by decide +kernel
theorem dX6_ofGallery_1 : decode cX6_ofGallery 1 = .ok (.iload_n 1, 1) := by decide +kernel
theorem dX6_ofGallery_2 : decode cX6_ofGallery 2 = .ok (.invokevirtual 100, 3) := by decide +kernel
theorem dX6_ofGallery_5 : decode cX6_ofGallery 5 = .ok (.ifCond .ne 5, 3) := by decide +kernel
theorem dX6_ofGallery_8 : decode cX6_ofGallery 8 = .ok (.iconst (-1), 1) := by decide +kernel
theorem dX6_ofGallery_9 : decode cX6_ofGallery 9 = .ok (.ireturn, 1) := by decide +kernel
theorem dX6_ofGallery_10 : decode cX6_ofGallery 10 = .ok (.iload_n 2, 1) := by decide +kernel
theorem dX6_ofGallery_11 : decode cX6_ofGallery 11 = .ok (.tableswitch 113 0 5 #[37, 47, 57, 67, 76, 88], 37) := by decide +kernel
theorem dX6_ofGallery_48 : decode cX6_ofGallery 48 = .ok (.aload_n 0, 1) := by decide +kernel
theorem dX6_ofGallery_49 : decode cX6_ofGallery 49 = .ok (.getfield 20, 3) := by decide +kernel
theorem dX6_ofGallery_52 : decode cX6_ofGallery 52 = .ok (.getfield 103, 3) := by decide +kernel
theorem dX6_ofGallery_55 : decode cX6_ofGallery 55 = .ok (.iload_n 1, 1) := by decide +kernel
theorem dX6_ofGallery_56 : decode cX6_ofGallery 56 = .ok (.iaload, 1) := by decide +kernel
theorem dX6_ofGallery_57 : decode cX6_ofGallery 57 = .ok (.ireturn, 1) := by decide +kernel
theorem dX6_ofGallery_58 : decode cX6_ofGallery 58 = .ok (.aload_n 0, 1) := by decide +kernel
theorem dX6_ofGallery_59 : decode cX6_ofGallery 59 = .ok (.getfield 27, 3) := by decide +kernel
theorem dX6_ofGallery_62 : decode cX6_ofGallery 62 = .ok (.getfield 106, 3) := by decide +kernel
theorem dX6_ofGallery_65 : decode cX6_ofGallery 65 = .ok (.iload_n 1, 1) := by decide +kernel
theorem dX6_ofGallery_66 : decode cX6_ofGallery 66 = .ok (.iaload, 1) := by decide +kernel
theorem dX6_ofGallery_67 : decode cX6_ofGallery 67 = .ok (.ireturn, 1) := by decide +kernel
theorem dX6_ofGallery_68 : decode cX6_ofGallery 68 = .ok (.aload_n 0, 1) := by decide +kernel
end
section
theorem dX6_ofGallery_69 : decode cX6_ofGallery 69 = .ok (.getfield 20, 3) := by decide +kernel
theorem dX6_ofGallery_72 : decode cX6_ofGallery 72 = .ok (.getfield 109, 3) := by decide +kernel
theorem dX6_ofGallery_75 : decode cX6_ofGallery 75 = .ok (.iload_n 1, 1) := by decide +kernel
theorem dX6_ofGallery_76 : decode cX6_ofGallery 76 = .ok (.iaload, 1) := by decide +kernel
theorem dX6_ofGallery_77 : decode cX6_ofGallery 77 = .ok (.ireturn, 1) := by decide +kernel
theorem dX6_ofGallery_78 : decode cX6_ofGallery 78 = .ok (.aload_n 0, 1) := by decide +kernel
theorem dX6_ofGallery_79 : decode cX6_ofGallery 79 = .ok (.getfield 20, 3) := by decide +kernel
theorem dX6_ofGallery_82 : decode cX6_ofGallery 82 = .ok (.iload_n 1, 1) := by decide +kernel
theorem dX6_ofGallery_83 : decode cX6_ofGallery 83 = .ok (.invokevirtual 112, 3) := by decide +kernel
theorem dX6_ofGallery_86 : decode cX6_ofGallery 86 = .ok (.ireturn, 1) := by decide +kernel
theorem dX6_ofGallery_87 : decode cX6_ofGallery 87 = .ok (.aload_n 0, 1) := by decide +kernel
theorem dX6_ofGallery_88 : decode cX6_ofGallery 88 = .ok (.getfield 27, 3) := by decide +kernel
theorem dX6_ofGallery_91 : decode cX6_ofGallery 91 = .ok (.getfield 115, 3) := by decide +kernel
theorem dX6_ofGallery_94 : decode cX6_ofGallery 94 = .ok (.iload_n 1, 1) := by decide +kernel
theorem dX6_ofGallery_95 : decode cX6_ofGallery 95 = .ok (.ishr, 1) := by decide +kernel
theorem dX6_ofGallery_96 : decode cX6_ofGallery 96 = .ok (.iconst 1, 1) := by decide +kernel
theorem dX6_ofGallery_97 : decode cX6_ofGallery 97 = .ok (.iand, 1) := by decide +kernel
theorem dX6_ofGallery_98 : decode cX6_ofGallery 98 = .ok (.ireturn, 1) := by decide +kernel
theorem dX6_ofGallery_99 : decode cX6_ofGallery 99 = .ok (.aload_n 0, 1) := by decide +kernel
theorem dX6_ofGallery_100 : decode cX6_ofGallery 100 = .ok (.iload_n 1, 1) := by decide +kernel
theorem dX6_ofGallery_101 : decode cX6_ofGallery 101 = .ok (.invokevirtual 118, 3) := by decide +kernel
theorem dX6_ofGallery_104 : decode cX6_ofGallery 104 = .ok (.ifCond .eq 17, 3) := by decide +kernel
theorem dX6_ofGallery_107 : decode cX6_ofGallery 107 = .ok (.aload_n 0, 1) := by decide +kernel
theorem dX6_ofGallery_108 : decode cX6_ofGallery 108 = .ok (.getfield 20, 3) := by decide +kernel
theorem dX6_ofGallery_111 : decode cX6_ofGallery 111 = .ok (.getfield 121, 3) := by decide +kernel
theorem dX6_ofGallery_114 : decode cX6_ofGallery 114 = .ok (.iload_n 1, 1) := by decide +kernel
theorem dX6_ofGallery_115 : decode cX6_ofGallery 115 = .ok (.ishr, 1) := by decide +kernel
theorem dX6_ofGallery_116 : decode cX6_ofGallery 116 = .ok (.iconst 1, 1) := by decide +kernel
theorem dX6_ofGallery_117 : decode cX6_ofGallery 117 = .ok (.iand, 1) := by decide +kernel
theorem dX6_ofGallery_118 : decode cX6_ofGallery 118 = .ok (.goto 5, 3) := by decide +kernel
theorem dX6_ofGallery_121 : decode cX6_ofGallery 121 = .ok (.bipush (-9), 2) := by decide +kernel
theorem dX6_ofGallery_123 : decode cX6_ofGallery 123 = .ok (.ireturn, 1) := by decide +kernel
theorem dX6_ofGallery_124 : decode cX6_ofGallery 124 = .ok (.bipush (-2), 2) := by decide +kernel
theorem dX6_ofGallery_126 : decode cX6_ofGallery 126 = .ok (.ireturn, 1) := by decide +kernel
set_option maxRecDepth 20000 in
theorem ggX6_bad_X6_isWord : GoodIn wsX6_bad wsX6_isWord := goodIn_r _ [7, 1, 8, 9, 10, 11, 12, 13, 14, 15, 16, 17, 18, 19, 20, 21, 22, 23, 24, 25] (by decide +kernel) (by decide +kernel)
set_option maxRecDepth 20000 in
theorem gX6_bad_X6_isWord : GoodIn wsX6_bad (wsV RX6 124 RX6 yX6_isWord wsX6_isWord) := goodIn_app (goodIn_of _ (by decide +kernel)) ggX6_bad_X6_isWord
theorem dX6_bad_0 : decode cX6_bad 0 = .ok (.aload_n 0, 1) := by decide +kernel
theorem dX6_bad_1 : decode cX6_bad 1 = .ok (.iload_n 1, 1) := by decide +kernel
theorem dX6_bad_2 : decode cX6_bad 2 = .ok (.invokevirtual 124, 3) := by decide +kernel
theorem dX6_bad_5 : decode cX6_bad 5 = .ok (.ifCond .ne 5, 3) := by decide +kernel
theorem dX6_bad_8 : decode cX6_bad 8 = .ok (.iconst (-1), 1) := by decide +kernel
theorem dX6_bad_9 : decode cX6_bad 9 = .ok (.ireturn, 1) := by decide +kernel
theorem dX6_bad_10 : decode cX6_bad 10 = .ok (.aload_n 0, 1) := by decide +kernel
theorem dX6_bad_11 : decode cX6_bad 11 = .ok (.getfield 20, 3) := by decide +kernel
theorem dX6_bad_14 : decode cX6_bad 14 = .ok (.getfield 127, 3) := by decide +kernel
theorem dX6_bad_17 : decode cX6_bad 17 = .ok (.iload_n 1, 1) := by decide +kernel
theorem dX6_bad_18 : decode cX6_bad 18 = .ok (.iaload, 1) := by decide +kernel
theorem dX6_bad_19 : decode cX6_bad 19 = .ok (.ireturn, 1) := by decide +kernel
set_option maxRecDepth 20000 in
theorem ggX6_foul_X6_isGallery : GoodIn wsX6_foul wsX6_isGallery := goodIn_r _ [7, 8, 9, 13, 14, 15, 16, 17, 18, 19, 20, 21, 22, 23, 26, 27, 28, 29, 30, 31] (by decide +kernel) (by decide +kernel)
set_option maxRecDepth 20000 in
theorem gX6_foul_X6_isGallery : GoodIn wsX6_foul (wsV RX6 100 RX6 yX6_isGallery wsX6_isGallery) := goodIn_app (goodIn_of _ (by decide +kernel)) ggX6_foul_X6_isGallery
set_option maxRecDepth 20000 in
theorem ggX6_foul_X6_isFoul : GoodIn wsX6_foul wsX6_isFoul := goodIn_r _ [12] (by decide +kernel) (by decide +kernel)
set_option maxRecDepth 20000 in
theorem gX6_foul_X6_isFoul : GoodIn wsX6_foul (va_wsS RX6 130 yX6_isFoul wsX6_isFoul) := goodIn_app (goodIn_of _ (by decide +kernel)) ggX6_foul_X6_isFoul
theorem dX6_foul_0 : decode cX6_foul 0 = .ok (.aload_n 0, 1) := by decide +kernel
theorem dX6_foul_1 : decode cX6_foul 1 = .ok (.iload_n 1, 1) := by decide +kernel
theorem dX6_foul_2 : decode cX6_foul 2 = .ok (.invokevirtual 100, 3) := by decide +kernel
theorem dX6_foul_5 : decode cX6_foul 5 = .ok (.ifCond .ne 5, 3) := by decide +kernel
theorem dX6_foul_8 : decode cX6_foul 8 = .ok (.iconst (-1), 1) := by decide +kernel
theorem dX6_foul_9 : decode cX6_foul 9 = .ok (.ireturn, 1) := by decide +kernel
theorem dX6_foul_10 : decode cX6_foul 10 = .ok (.iload_n 2, 1) := by decide +kernel
theorem dX6_foul_11 : decode cX6_foul 11 = .ok (.invokestatic 130, 3) := by decide +kernel
theorem dX6_foul_14 : decode cX6_foul 14 = .ok (.ifCond .ne 6, 3) := by decide +kernel
theorem dX6_foul_17 : decode cX6_foul 17 = .ok (.bipush (-2), 2) := by decide +kernel
theorem dX6_foul_19 : decode cX6_foul 19 = .ok (.ireturn, 1) := by decide +kernel
theorem dX6_foul_20 : decode cX6_foul 20 = .ok (.aload_n 0, 1) := by decide +kernel
theorem dX6_foul_21 : decode cX6_foul 21 = .ok (.getfield 27, 3) := by decide +kernel
theorem dX6_foul_24 : decode cX6_foul 24 = .ok (.getfield 106, 3) := by decide +kernel
theorem dX6_foul_27 : decode cX6_foul 27 = .ok (.iload_n 1, 1) := by decide +kernel
theorem dX6_foul_28 : decode cX6_foul 28 = .ok (.iaload, 1) := by decide +kernel
theorem dX6_foul_29 : decode cX6_foul 29 = .ok (.istore_n 3, 1) := by decide +kernel
theorem dX6_foul_30 : decode cX6_foul 30 = .ok (.aload_n 0, 1) := by decide +kernel
theorem dX6_foul_31 : decode cX6_foul 31 = .ok (.getfield 27, 3) := by decide +kernel
theorem dX6_foul_34 : decode cX6_foul 34 = .ok (.getfield 106, 3) := by decide +kernel
theorem dX6_foul_37 : decode cX6_foul 37 = .ok (.iload_n 1, 1) := by decide +kernel
theorem dX6_foul_38 : decode cX6_foul 38 = .ok (.iload_n 2, 1) := by decide +kernel
theorem dX6_foul_39 : decode cX6_foul 39 = .ok (.iastore, 1) := by decide +kernel
theorem dX6_foul_40 : decode cX6_foul 40 = .ok (.iload_n 3, 1) := by decide +kernel
theorem dX6_foul_41 : decode cX6_foul 41 = .ok (.ireturn, 1) := by decide +kernel
set_option maxRecDepth 20000 in
theorem ggX6_breed_X6_isGallery : GoodIn wsX6_breed wsX6_isGallery := goodIn_r _ [7, 1, 8, 9, 10, 11, 12, 13, 14, 15, 16, 17, 18, 19, 20, 21, 22, 23, 24, 25] (by decide +kernel) (by decide +kernel)
set_option maxRecDepth 20000 in
theorem gX6_breed_X6_isGallery : GoodIn wsX6_breed (wsV RX6 100 RX6 yX6_isGallery wsX6_isGallery) := goodIn_app (goodIn_of _ (by decide +kernel)) ggX6_breed_X6_isGallery
theorem dX6_breed_0 : decode cX6_breed 0 = .ok (.aload_n 0, 1) := by decide +kernel
theorem dX6_breed_1 : decode cX6_breed 1 = .ok (.iload_n 1, 1) := by decide +kernel
theorem dX6_breed_2 : decode cX6_breed 2 = .ok (.invokevirtual 100, 3) := by decide +kernel
theorem dX6_breed_5 : decode cX6_breed 5 = .ok (.ifCond .ne 5, 3) := by decide +kernel
theorem dX6_breed_8 : decode cX6_breed 8 = .ok (.iconst (-1), 1) := by decide +kernel
theorem dX6_breed_9 : decode cX6_breed 9 = .ok (.ireturn, 1) := by decide +kernel
theorem dX6_breed_10 : decode cX6_breed 10 = .ok (.iload_n 2, 1) := by decide +kernel
theorem dX6_breed_11 : decode cX6_breed 11 = .ok (.iconst 1, 1) := by decide +kernel
theorem dX6_breed_12 : decode cX6_breed 12 = .ok (.if_icmp .lt 9, 3) := by decide +kernel
theorem dX6_breed_15 : decode cX6_breed 15 = .ok (.iload_n 2, 1) := by decide +kernel
theorem dX6_breed_16 : decode cX6_breed 16 = .ok (.bipush 9, 2) := by decide +kernel
theorem dX6_breed_18 : decode cX6_breed 18 = .ok (.if_icmp .le 6, 3) := by decide +kernel
theorem dX6_breed_21 : decode cX6_breed 21 = .ok (.bipush (-2), 2) := by decide +kernel
theorem dX6_breed_23 : decode cX6_breed 23 = .ok (.ireturn, 1) := by decide +kernel
theorem dX6_breed_24 : decode cX6_breed 24 = .ok (.aload_n 0, 1) := by decide +kernel
theorem dX6_breed_25 : decode cX6_breed 25 = .ok (.getfield 20, 3) := by decide +kernel
theorem dX6_breed_28 : decode cX6_breed 28 = .ok (.getfield 109, 3) := by decide +kernel
theorem dX6_breed_31 : decode cX6_breed 31 = .ok (.iload_n 1, 1) := by decide +kernel
theorem dX6_breed_32 : decode cX6_breed 32 = .ok (.iaload, 1) := by decide +kernel
theorem dX6_breed_33 : decode cX6_breed 33 = .ok (.istore_n 3, 1) := by decide +kernel
theorem dX6_breed_34 : decode cX6_breed 34 = .ok (.aload_n 0, 1) := by decide +kernel
theorem dX6_breed_35 : decode cX6_breed 35 = .ok (.getfield 20, 3) := by decide +kernel
theorem dX6_breed_38 : decode cX6_breed 38 = .ok (.getfield 109, 3) := by decide +kernel
theorem dX6_breed_41 : decode cX6_breed 41 = .ok (.iload_n 1, 1) := by decide +kernel
theorem dX6_breed_42 : decode cX6_breed 42 = .ok (.iload_n 2, 1) := by decide +kernel
theorem dX6_breed_43 : decode cX6_breed 43 = .ok (.iastore, 1) := by decide +kernel
theorem dX6_breed_44 : decode cX6_breed 44 = .ok (.iload_n 3, 1) := by decide +kernel
theorem dX6_breed_45 : decode cX6_breed 45 = .ok (.ireturn, 1) := by decide +kernel
set_option maxRecDepth 20000 in
theorem ggX6_door_X6_isDoor : GoodIn wsX6_door wsX6_isDoor := goodIn_r _ [7, 1, 8, 9, 10, 11, 12, 13, 14, 15, 16, 17, 18, 19, 20, 21, 22, 23, 24, 25] (by decide +kernel) (by decide +kernel)
set_option maxRecDepth 20000 in
theorem gX6_door_X6_isDoor : GoodIn wsX6_door (wsV RX6 118 RX6 yX6_isDoor wsX6_isDoor) := goodIn_app (goodIn_of _ (by decide +kernel)) ggX6_door_X6_isDoor
theorem dX6_door_0 : decode cX6_door 0 = .ok (.aload_n 0, 1) := by decide +kernel
theorem dX6_door_1 : decode cX6_door 1 = .ok (.iload_n 1, 1) := by decide +kernel
theorem dX6_door_2 : decode cX6_door 2 = .ok (.invokevirtual 118, 3) := by decide +kernel
theorem dX6_door_5 : decode cX6_door 5 = .ok (.ifCond .ne 5, 3) := by decide +kernel
theorem dX6_door_8 : decode cX6_door 8 = .ok (.iconst (-1), 1) := by decide +kernel
theorem dX6_door_9 : decode cX6_door 9 = .ok (.ireturn, 1) := by decide +kernel
theorem dX6_door_10 : decode cX6_door 10 = .ok (.iload_n 2, 1) := by decide +kernel
theorem dX6_door_11 : decode cX6_door 11 = .ok (.ifCond .eq 11, 3) := by decide +kernel
theorem dX6_door_14 : decode cX6_door 14 = .ok (.iload_n 2, 1) := by decide +kernel
theorem dX6_door_15 : decode cX6_door 15 = .ok (.iconst 1, 1) := by decide +kernel
theorem dX6_door_16 : decode cX6_door 16 = .ok (.if_icmp .eq 6, 3) := by decide +kernel
theorem dX6_door_19 : decode cX6_door 19 = .ok (.bipush (-2), 2) := by decide +kernel
theorem dX6_door_21 : decode cX6_door 21 = .ok (.ireturn, 1) := by decide +kernel
theorem dX6_door_22 : decode cX6_door 22 = .ok (.aload_n 0, 1) := by decide +kernel
theorem dX6_door_23 : decode cX6_door 23 = .ok (.getfield 20, 3) := by decide +kernel
theorem dX6_door_26 : decode cX6_door 26 = .ok (.getfield 121, 3) := by decide +kernel
theorem dX6_door_29 : decode cX6_door 29 = .ok (.iload_n 1, 1) := by decide +kernel
theorem dX6_door_30 : decode cX6_door 30 = .ok (.ishr, 1) := by decide +kernel
theorem dX6_door_31 : decode cX6_door 31 = .ok (.iconst 1, 1) := by decide +kernel
theorem dX6_door_32 : decode cX6_door 32 = .ok (.iand, 1) := by decide +kernel
theorem dX6_door_33 : decode cX6_door 33 = .ok (.istore_n 3, 1) := by decide +kernel
theorem dX6_door_34 : decode cX6_door 34 = .ok (.aload_n 0, 1) := by decide +kernel
theorem dX6_door_35 : decode cX6_door 35 = .ok (.getfield 20, 3) := by decide +kernel
theorem dX6_door_38 : decode cX6_door 38 = .ok (.aload_n 0, 1) := by decide +kernel
theorem dX6_door_39 : decode cX6_door 39 = .ok (.getfield 20, 3) := by decide +kernel
theorem dX6_door_42 : decode cX6_door 42 = .ok (.getfield 121, 3) := by decide +kernel
theorem dX6_door_45 : decode cX6_door 45 = .ok (.iconst 1, 1) := by decide +kernel
theorem dX6_door_46 : decode cX6_door 46 = .ok (.iload_n 1, 1) := by decide +kernel
theorem dX6_door_47 : decode cX6_door 47 = .ok (.ishl, 1) := by decide +kernel
theorem dX6_door_48 : decode cX6_door 48 = .ok (.iconst (-1), 1) := by decide +kernel
theorem dX6_door_49 : decode cX6_door 49 = .ok (.ixor, 1) := by decide +kernel
theorem dX6_door_50 : decode cX6_door 50 = .ok (.iand, 1) := by decide +kernel
theorem dX6_door_51 : decode cX6_door 51 = .ok (.iload_n 2, 1) := by decide +kernel
theorem dX6_door_52 : decode cX6_door 52 = .ok (.iload_n 1, 1) := by decide +kernel
theorem dX6_door_53 : decode cX6_door 53 = .ok (.ishl, 1) := by decide +kernel
theorem dX6_door_54 : decode cX6_door 54 = .ok (.ior, 1) := by decide +kernel
theorem dX6_door_55 : decode cX6_door 55 = .ok (.putfield 121, 3) := by decide +kernel
theorem dX6_door_58 : decode cX6_door 58 = .ok (.iload_n 3, 1) := by decide +kernel
theorem dX6_door_59 : decode cX6_door 59 = .ok (.ireturn, 1) := by decide +kernel
set_option maxRecDepth 20000 in
theorem ggX6_say_X6_isGallery : GoodIn wsX6_say wsX6_isGallery := goodIn_r _ [9, 2, 10, 61, 62, 63, 64, 65, 66, 67, 68, 69, 70, 71, 72, 73, 74, 75, 76, 77] (by decide +kernel) (by decide +kernel)
set_option maxRecDepth 20000 in
theorem gX6_say_X6_isGallery : GoodIn wsX6_say (wsV RX6 100 RX6 yX6_isGallery wsX6_isGallery) := goodIn_app (goodIn_of _ (by decide +kernel)) ggX6_say_X6_isGallery
set_option maxRecDepth 20000 in
theorem ggX6_say_X6_isWord : GoodIn wsX6_say wsX6_isWord := goodIn_r _ [14, 2, 15, 61, 62, 63, 64, 65, 66, 67, 68, 69, 70, 71, 72, 73, 74, 75, 76, 77] (by decide +kernel) (by decide +kernel)
set_option maxRecDepth 20000 in
theorem gX6_say_X6_isWord : GoodIn wsX6_say (wsV RX6 124 RX6 yX6_isWord wsX6_isWord) := goodIn_app (goodIn_of _ (by decide +kernel)) ggX6_say_X6_isWord
set_option maxRecDepth 20000 in
theorem ggX6_say_X2_breathe : GoodIn wsX6_say wsX2_breathe := goodIn_r _ [20, 21, 22, 23, 24, 25, 26, 27, 28, 29, 30, 31, 32, 19, 33, 34, 35, 36, 37, 38, 39, 40, 41, 42, 43, 44, 45, 46, 47, 48, 49, 50, 51, 52, 53, 54, 55, 56, 57, 58, 59, 8, 60, 78, 79, 72, 73, 74, 75, 76, 77] (by decide +kernel) (by decide +kernel)
set_option maxRecDepth 20000 in
theorem gX6_say_X2_breathe : GoodIn wsX6_say (wsV RX6 133 RX2 yX2_breathe wsX2_breathe) := goodIn_app (goodIn_of _ (by decide +kernel)) ggX6_say_X2_breathe
theorem dX6_say_0 : decode cX6_say 0 = .ok (.aload_n 0, 1) := by decide +kernel
theorem dX6_say_1 : decode cX6_say 1 = .ok (.iload_n 1, 1) := by decide +kernel
theorem dX6_say_2 : decode cX6_say 2 = .ok (.invokevirtual 100, 3) := by decide +kernel
theorem dX6_say_5 : decode cX6_say 5 = .ok (.ifCond .eq 11, 3) := by decide +kernel
theorem dX6_say_8 : decode cX6_say 8 = .ok (.aload_n 0, 1) := by decide +kernel
theorem dX6_say_9 : decode cX6_say 9 = .ok (.iload_n 2, 1) := by decide +kernel
theorem dX6_say_10 : decode cX6_say 10 = .ok (.invokevirtual 124, 3) := by decide +kernel
theorem dX6_say_13 : decode cX6_say 13 = .ok (.ifCond .ne 5, 3) := by decide +kernel
theorem dX6_say_16 : decode cX6_say 16 = .ok (.iconst (-1), 1) := by decide +kernel
theorem dX6_say_17 : decode cX6_say 17 = .ok (.ireturn, 1) := by decide +kernel
theorem dX6_say_18 : decode cX6_say 18 = .ok (.aload_n 0, 1) := by decide +kernel
theorem dX6_say_19 : decode cX6_say 19 = .ok (.dup, 1) := by decide +kernel
theorem dX6_say_20 : decode cX6_say 20 = .ok (.getfield 60, 3) := by decide +kernel
theorem dX6_say_23 : decode cX6_say 23 = .ok (.iconst 1, 1) := by decide +kernel
theorem dX6_say_24 : decode cX6_say 24 = .ok (.iadd, 1) := by decide +kernel
theorem dX6_say_25 : decode cX6_say 25 = .ok (.putfield 60, 3) := by decide +kernel
theorem dX6_say_28 : decode cX6_say 28 = .ok (.aload_n 0, 1) := by decide +kernel
theorem dX6_say_29 : decode cX6_say 29 = .ok (.getfield 20, 3) := by decide +kernel
theorem dX6_say_32 : decode cX6_say 32 = .ok (.aload_n 0, 1) := by decide +kernel
theorem dX6_say_33 : decode cX6_say 33 = .ok (.getfield 27, 3) := by decide +kernel
theorem dX6_say_36 : decode cX6_say 36 = .ok (.aload_n 0, 1) := by decide +kernel
theorem dX6_say_37 : decode cX6_say 37 = .ok (.getfield 20, 3) := by decide +kernel
theorem dX6_say_40 : decode cX6_say 40 = .ok (.getfield 121, 3) := by decide +kernel
theorem dX6_say_43 : decode cX6_say 43 = .ok (.iload_n 1, 1) := by decide +kernel
theorem dX6_say_44 : decode cX6_say 44 = .ok (.iload_n 2, 1) := by decide +kernel
theorem dX6_say_45 : decode cX6_say 45 = .ok (.invokevirtual 133, 3) := by decide +kernel
theorem dX6_say_48 : decode cX6_say 48 = .ok (.ireturn, 1) := by decide +kernel
set_option maxRecDepth 20000 in
theorem ggX6_hush_X6_hasMine : GoodIn wsX6_hush wsX6_hasMine := goodIn_r _ [9, 1, 10, 45, 46, 47, 48, 49, 50, 51, 52, 53, 54, 55, 56, 57, 58, 59, 60, 61] (by decide +kernel) (by decide +kernel)
set_option maxRecDepth 20000 in
theorem gX6_hush_X6_hasMine : GoodIn wsX6_hush (wsV RX6 137 RX6 yX6_hasMine wsX6_hasMine) := goodIn_app (goodIn_of _ (by decide +kernel)) ggX6_hush_X6_hasMine
set_option maxRecDepth 20000 in
theorem ggX6_hush_X2_breatheHushed : GoodIn wsX6_hush wsX2_breatheHushed := goodIn_r _ [15, 16, 17, 18, 14, 19, 20, 21, 22, 23, 24, 25, 26, 27, 28, 29, 30, 31, 32, 33, 34, 35, 36, 37, 38, 39, 40, 41, 42, 43, 8, 44, 56, 57, 58, 59, 60, 61, 62, 63] (by decide +kernel) (by decide +kernel)
set_option maxRecDepth 20000 in
theorem gX6_hush_X2_breatheHushed : GoodIn wsX6_hush (wsV RX6 141 RX2 yX2_breatheHushed wsX2_breatheHushed) := goodIn_app (goodIn_of _ (by decide +kernel)) ggX6_hush_X2_breatheHushed
theorem dX6_hush_0 : decode cX6_hush 0 = .ok (.iload_n 1, 1) := by decide +kernel
theorem dX6_hush_1 : decode cX6_hush 1 = .ok (.iconst 1, 1) := by decide +kernel
theorem dX6_hush_2 : decode cX6_hush 2 = .ok (.if_icmp .lt 9, 3) := by decide +kernel
theorem dX6_hush_5 : decode cX6_hush 5 = .ok (.iload_n 1, 1) := by decide +kernel
theorem dX6_hush_6 : decode cX6_hush 6 = .ok (.bipush 30, 2) := by decide +kernel
theorem dX6_hush_8 : decode cX6_hush 8 = .ok (.if_icmp .le 6, 3) := by decide +kernel
theorem dX6_hush_11 : decode cX6_hush 11 = .ok (.bipush (-2), 2) := by decide +kernel
theorem dX6_hush_13 : decode cX6_hush 13 = .ok (.ireturn, 1) := by decide +kernel
theorem dX6_hush_14 : decode cX6_hush 14 = .ok (.aload_n 0, 1) := by decide +kernel
theorem dX6_hush_15 : decode cX6_hush 15 = .ok (.invokevirtual 137, 3) := by decide +kernel
theorem dX6_hush_18 : decode cX6_hush 18 = .ok (.ifCond .ne 6, 3) := by decide +kernel
theorem dX6_hush_21 : decode cX6_hush 21 = .ok (.bipush (-3), 2) := by decide +kernel
theorem dX6_hush_23 : decode cX6_hush 23 = .ok (.ireturn, 1) := by decide +kernel
theorem dX6_hush_24 : decode cX6_hush 24 = .ok (.iconst 0, 1) := by decide +kernel
theorem dX6_hush_25 : decode cX6_hush 25 = .ok (.istore_n 2, 1) := by decide +kernel
theorem dX6_hush_26 : decode cX6_hush 26 = .ok (.iconst 0, 1) := by decide +kernel
theorem dX6_hush_27 : decode cX6_hush 27 = .ok (.istore_n 3, 1) := by decide +kernel
theorem dX6_hush_28 : decode cX6_hush 28 = .ok (.iload_n 3, 1) := by decide +kernel
theorem dX6_hush_29 : decode cX6_hush 29 = .ok (.iload_n 1, 1) := by decide +kernel
theorem dX6_hush_30 : decode cX6_hush 30 = .ok (.if_icmp .ge 30, 3) := by decide +kernel
theorem dX6_hush_33 : decode cX6_hush 33 = .ok (.iload_n 2, 1) := by decide +kernel
theorem dX6_hush_34 : decode cX6_hush 34 = .ok (.aload_n 0, 1) := by decide +kernel
theorem dX6_hush_35 : decode cX6_hush 35 = .ok (.getfield 20, 3) := by decide +kernel
theorem dX6_hush_38 : decode cX6_hush 38 = .ok (.aload_n 0, 1) := by decide +kernel
theorem dX6_hush_39 : decode cX6_hush 39 = .ok (.getfield 27, 3) := by decide +kernel
theorem dX6_hush_42 : decode cX6_hush 42 = .ok (.aload_n 0, 1) := by decide +kernel
theorem dX6_hush_43 : decode cX6_hush 43 = .ok (.getfield 20, 3) := by decide +kernel
theorem dX6_hush_46 : decode cX6_hush 46 = .ok (.getfield 121, 3) := by decide +kernel
theorem dX6_hush_49 : decode cX6_hush 49 = .ok (.invokevirtual 141, 3) := by decide +kernel
theorem dX6_hush_52 : decode cX6_hush 52 = .ok (.ior, 1) := by decide +kernel
theorem dX6_hush_53 : decode cX6_hush 53 = .ok (.istore_n 2, 1) := by decide +kernel
theorem dX6_hush_54 : decode cX6_hush 54 = .ok (.iinc 3 1, 3) := by decide +kernel
theorem dX6_hush_57 : decode cX6_hush 57 = .ok (.goto (-29), 3) := by decide +kernel
theorem dX6_hush_60 : decode cX6_hush 60 = .ok (.aload_n 0, 1) := by decide +kernel
theorem dX6_hush_61 : decode cX6_hush 61 = .ok (.dup, 1) := by decide +kernel
theorem dX6_hush_62 : decode cX6_hush 62 = .ok (.getfield 60, 3) := by decide +kernel
theorem dX6_hush_65 : decode cX6_hush 65 = .ok (.iload_n 1, 1) := by decide +kernel
theorem dX6_hush_66 : decode cX6_hush 66 = .ok (.iadd, 1) := by decide +kernel
theorem dX6_hush_67 : decode cX6_hush 67 = .ok (.putfield 60, 3) := by decide +kernel
theorem dX6_hush_70 : decode cX6_hush 70 = .ok (.iload_n 2, 1) := by decide +kernel
theorem dX6_hush_71 : decode cX6_hush 71 = .ok (.ireturn, 1) := by decide +kernel
set_option maxRecDepth 20000 in
theorem ggX6_blow_X6_isGallery : GoodIn wsX6_blow wsX6_isGallery := goodIn_r _ [9, 3, 10, 33, 34, 35, 36, 37, 38, 39, 40, 41, 42, 43, 46, 47, 48, 49, 50, 51] (by decide +kernel) (by decide +kernel)
set_option maxRecDepth 20000 in
theorem gX6_blow_X6_isGallery : GoodIn wsX6_blow (wsV RX6 100 RX6 yX6_isGallery wsX6_isGallery) := goodIn_app (goodIn_of _ (by decide +kernel)) ggX6_blow_X6_isGallery
set_option maxRecDepth 20000 in
theorem ggX6_blow_X0_isDown : GoodIn wsX6_blow wsX0_isDown := goodIn_r _ [15, 16, 44, 45] (by decide +kernel) (by decide +kernel)
set_option maxRecDepth 20000 in
theorem gX6_blow_X0_isDown : GoodIn wsX6_blow (wsV RX6 145 RX0 yX0_isDown wsX0_isDown) := goodIn_app (goodIn_of _ (by decide +kernel)) ggX6_blow_X0_isDown
set_option maxRecDepth 20000 in
theorem ggX6_blow_X2_bears : GoodIn wsX6_blow wsX2_bears := goodIn_r _ [21, 22, 23, 24, 8, 25, 46, 47, 48, 49, 50, 51] (by decide +kernel) (by decide +kernel)
set_option maxRecDepth 20000 in
theorem gX6_blow_X2_bears : GoodIn wsX6_blow (wsV RX6 112 RX2 yX2_bears wsX2_bears) := goodIn_app (goodIn_of _ (by decide +kernel)) ggX6_blow_X2_bears
set_option maxRecDepth 20000 in
theorem ggX6_blow_J6_bitCount_0f7a4 : GoodIn wsX6_blow wsJ6_bitCount_0f7a4 := goodIn_r _ [29, 30, 31, 32] (by decide +kernel) (by decide +kernel)
set_option maxRecDepth 20000 in
theorem gX6_blow_J6_bitCount_0f7a4 : GoodIn wsX6_blow (va_wsS RX6 148 yJ6_bitCount_0f7a4 wsJ6_bitCount_0f7a4) := goodIn_app (goodIn_of _ (by decide +kernel)) ggX6_blow_J6_bitCount_0f7a4
theorem dX6_blow_0 : decode cX6_blow 0 = .ok (.aload_n 0, 1) := by decide +kernel
theorem dX6_blow_1 : decode cX6_blow 1 = .ok (.iload_n 1, 1) := by decide +kernel
theorem dX6_blow_2 : decode cX6_blow 2 = .ok (.invokevirtual 100, 3) := by decide +kernel
theorem dX6_blow_5 : decode cX6_blow 5 = .ok (.ifCond .ne 5, 3) := by decide +kernel
theorem dX6_blow_8 : decode cX6_blow 8 = .ok (.iconst (-1), 1) := by decide +kernel
theorem dX6_blow_9 : decode cX6_blow 9 = .ok (.ireturn, 1) := by decide +kernel
theorem dX6_blow_10 : decode cX6_blow 10 = .ok (.aload_n 0, 1) := by decide +kernel
theorem dX6_blow_11 : decode cX6_blow 11 = .ok (.getfield 27, 3) := by decide +kernel
theorem dX6_blow_14 : decode cX6_blow 14 = .ok (.iload_n 1, 1) := by decide +kernel
theorem dX6_blow_15 : decode cX6_blow 15 = .ok (.invokevirtual 145, 3) := by decide +kernel
theorem dX6_blow_18 : decode cX6_blow 18 = .ok (.ifCond .eq 23, 3) := by decide +kernel
theorem dX6_blow_21 : decode cX6_blow 21 = .ok (.aload_n 0, 1) := by decide +kernel
theorem dX6_blow_22 : decode cX6_blow 22 = .ok (.getfield 27, 3) := by decide +kernel
theorem dX6_blow_25 : decode cX6_blow 25 = .ok (.getfield 106, 3) := by decide +kernel
theorem dX6_blow_28 : decode cX6_blow 28 = .ok (.iload_n 1, 1) := by decide +kernel
theorem dX6_blow_29 : decode cX6_blow 29 = .ok (.iaload, 1) := by decide +kernel
theorem dX6_blow_30 : decode cX6_blow 30 = .ok (.aload_n 0, 1) := by decide +kernel
theorem dX6_blow_31 : decode cX6_blow 31 = .ok (.getfield 20, 3) := by decide +kernel
theorem dX6_blow_34 : decode cX6_blow 34 = .ok (.iload_n 1, 1) := by decide +kernel
theorem dX6_blow_35 : decode cX6_blow 35 = .ok (.invokevirtual 112, 3) := by decide +kernel
theorem dX6_blow_38 : decode cX6_blow 38 = .ok (.if_icmp .le 6, 3) := by decide +kernel
theorem dX6_blow_41 : decode cX6_blow 41 = .ok (.bipush (-3), 2) := by decide +kernel
theorem dX6_blow_43 : decode cX6_blow 43 = .ok (.ireturn, 1) := by decide +kernel
theorem dX6_blow_44 : decode cX6_blow 44 = .ok (.aload_n 0, 1) := by decide +kernel
theorem dX6_blow_45 : decode cX6_blow 45 = .ok (.getfield 27, 3) := by decide +kernel
theorem dX6_blow_48 : decode cX6_blow 48 = .ok (.dup, 1) := by decide +kernel
theorem dX6_blow_49 : decode cX6_blow 49 = .ok (.getfield 115, 3) := by decide +kernel
theorem dX6_blow_52 : decode cX6_blow 52 = .ok (.iconst 1, 1) := by decide +kernel
theorem dX6_blow_53 : decode cX6_blow 53 = .ok (.iload_n 1, 1) := by decide +kernel
theorem dX6_blow_54 : decode cX6_blow 54 = .ok (.ishl, 1) := by decide +kernel
theorem dX6_blow_55 : decode cX6_blow 55 = .ok (.iconst (-1), 1) := by decide +kernel
theorem dX6_blow_56 : decode cX6_blow 56 = .ok (.ixor, 1) := by decide +kernel
theorem dX6_blow_57 : decode cX6_blow 57 = .ok (.iand, 1) := by decide +kernel
theorem dX6_blow_58 : decode cX6_blow 58 = .ok (.putfield 115, 3) := by decide +kernel
theorem dX6_blow_61 : decode cX6_blow 61 = .ok (.aload_n 0, 1) := by decide +kernel
theorem dX6_blow_62 : decode cX6_blow 62 = .ok (.getfield 27, 3) := by decide +kernel
theorem dX6_blow_65 : decode cX6_blow 65 = .ok (.getfield 115, 3) := by decide +kernel
theorem dX6_blow_68 : decode cX6_blow 68 = .ok (.invokestatic 148, 3) := by decide +kernel
theorem dX6_blow_71 : decode cX6_blow 71 = .ok (.ireturn, 1) := by decide +kernel
set_option maxRecDepth 20000 in
theorem ggX6_shift_X6_isSheet : GoodIn wsX6_shift wsX6_isSheet := goodIn_r _ [16] (by decide +kernel) (by decide +kernel)
set_option maxRecDepth 20000 in
theorem gX6_shift_X6_isSheet : GoodIn wsX6_shift (va_wsS RX6 71 yX6_isSheet wsX6_isSheet) := goodIn_app (goodIn_of _ (by decide +kernel)) ggX6_shift_X6_isSheet
set_option maxRecDepth 20000 in
theorem ggX6_shift_X6_isLane : GoodIn wsX6_shift wsX6_isLane := goodIn_r _ [19] (by decide +kernel) (by decide +kernel)
set_option maxRecDepth 20000 in
theorem gX6_shift_X6_isLane : GoodIn wsX6_shift (va_wsS RX6 75 yX6_isLane wsX6_isLane) := goodIn_app (goodIn_of _ (by decide +kernel)) ggX6_shift_X6_isLane
set_option maxRecDepth 20000 in
theorem ggX6_shift_X6_isOfShift : GoodIn wsX6_shift wsX6_isOfShift := goodIn_r _ [22] (by decide +kernel) (by decide +kernel)
set_option maxRecDepth 20000 in
theorem gX6_shift_X6_isOfShift : GoodIn wsX6_shift (va_wsS RX6 153 yX6_isOfShift wsX6_isOfShift) := goodIn_app (goodIn_of _ (by decide +kernel)) ggX6_shift_X6_isOfShift
set_option maxRecDepth 20000 in
theorem ggX6_shift_X6_takePairs : GoodIn wsX6_shift wsX6_takePairs := goodIn_r _ [26, 27, 5, 9, 10, 6, 28, 29, 30, 31, 32, 33, 34, 35, 36, 37, 38, 39, 40, 41, 42, 15, 43, 1, 44, 45, 46, 47, 7, 48, 49, 50, 51, 52, 53, 54, 55, 56, 57, 145, 146, 147, 148, 123, 124, 125, 126, 127, 128, 129, 130, 131, 132, 133, 134, 135, 136, 137, 138, 139, 140, 141, 142] (by decide +kernel) (by decide +kernel)
set_option maxRecDepth 20000 in
theorem gX6_shift_X6_takePairs : GoodIn wsX6_shift (wsV RX6 156 RX6 yX6_takePairs wsX6_takePairs) := goodIn_app (goodIn_of _ (by decide +kernel)) ggX6_shift_X6_takePairs
set_option maxRecDepth 20000 in
theorem ggX6_shift_X0_becomeLike : GoodIn wsX6_shift wsX0_becomeLike := goodIn_r _ [62, 63, 64, 65, 66, 67, 68, 143, 144] (by decide +kernel) (by decide +kernel)
set_option maxRecDepth 20000 in
theorem gX6_shift_X0_becomeLike : GoodIn wsX6_shift (wsV RX6 160 RX0 yX0_becomeLike wsX0_becomeLike) := goodIn_app (goodIn_of _ (by decide +kernel)) ggX6_shift_X0_becomeLike
set_option maxRecDepth 20000 in
theorem ggX6_shift_X2_breathe : GoodIn wsX6_shift wsX2_breathe := goodIn_r _ [73, 74, 75, 76, 77, 78, 79, 80, 81, 82, 83, 84, 85, 72, 86, 87, 88, 89, 90, 91, 92, 93, 94, 95, 96, 97, 98, 99, 100, 101, 102, 61, 103, 68, 104, 105, 106, 107, 108, 109, 110, 15, 111, 143, 144, 137, 138, 139, 140, 141, 142] (by decide +kernel) (by decide +kernel)
set_option maxRecDepth 20000 in
theorem gX6_shift_X2_breathe : GoodIn wsX6_shift (wsV RX6 133 RX2 yX2_breathe wsX2_breathe) := goodIn_app (goodIn_of _ (by decide +kernel)) ggX6_shift_X2_breathe
set_option maxRecDepth 20000 in
theorem ggX6_shift_J6_bitCount_0f7a4 : GoodIn wsX6_shift wsJ6_bitCount_0f7a4 := goodIn_r _ [115, 116, 117, 118] (by decide +kernel) (by decide +kernel)
set_option maxRecDepth 20000 in
theorem gX6_shift_J6_bitCount_0f7a4 : GoodIn wsX6_shift (va_wsS RX6 148 yJ6_bitCount_0f7a4 wsJ6_bitCount_0f7a4) := goodIn_app (goodIn_of _ (by decide +kernel)) ggX6_shift_J6_bitCount_0f7a4
set_option maxRecDepth 20000 in
theorem ggX6_shift_X6_foulTogether : GoodIn wsX6_shift wsX6_foulTogether := goodIn_r _ [122, 7, 48, 12, 123, 124, 125, 126, 127, 128, 129, 130, 131, 132, 133, 137, 138, 139, 140, 141, 142, 143, 144] (by decide +kernel) (by decide +kernel)
set_option maxRecDepth 20000 in
theorem gX6_shift_X6_foulTogether : GoodIn wsX6_shift (wsV RX6 172 RX6 yX6_foulTogether wsX6_foulTogether) := goodIn_app (goodIn_of _ (by decide +kernel)) ggX6_shift_X6_foulTogether
set_option maxRecDepth 20000 in
theorem ggX6_shift_X6_isGallery : GoodIn wsX6_shift wsX6_isGallery := goodIn_r _ [52, 7, 48, 123, 124, 125, 126, 127, 128, 129, 130, 131, 132, 133, 137, 138, 139, 140, 141, 142] (by decide +kernel) (by decide +kernel)
set_option maxRecDepth 20000 in
theorem gX6_shift_X6_isGallery : GoodIn wsX6_shift (wsV RX6 100 RX6 yX6_isGallery wsX6_isGallery) := goodIn_app (goodIn_of _ (by decide +kernel)) ggX6_shift_X6_isGallery
theorem dX6_shift_0 : decode cX6_shift 0 = .ok (.aload_n 0, 1) := by decide +kernel
theorem dX6_shift_1 : decode cX6_shift 1 = .ok (.iconst 0, 1) := by decide +kernel
theorem dX6_shift_2 : decode cX6_shift 2 = .ok (.putfield 67, 3) := by decide +kernel
theorem dX6_shift_5 : decode cX6_shift 5 = .ok (.iload_n 1, 1) := by decide +kernel
theorem dX6_shift_6 : decode cX6_shift 6 = .ok (.invokestatic 71, 3) := by decide +kernel
theorem dX6_shift_9 : decode cX6_shift 9 = .ok (.ifCond .ne 5, 3) := by decide +kernel
theorem dX6_shift_12 : decode cX6_shift 12 = .ok (.iconst (-1), 1) := by decide +kernel
theorem dX6_shift_13 : decode cX6_shift 13 = .ok (.ireturn, 1) := by decide +kernel
theorem dX6_shift_14 : decode cX6_shift 14 = .ok (.iload_n 2, 1) := by decide +kernel
theorem dX6_shift_15 : decode cX6_shift 15 = .ok (.invokestatic 75, 3) := by decide +kernel
theorem dX6_shift_18 : decode cX6_shift 18 = .ok (.ifCond .eq 23, 3) := by decide +kernel
theorem dX6_shift_21 : decode cX6_shift 21 = .ok (.iload 4, 2) := by decide +kernel
theorem dX6_shift_23 : decode cX6_shift 23 = .ok (.ifCond .lt 18, 3) := by decide +kernel
theorem dX6_shift_26 : decode cX6_shift 26 = .ok (.iload 4, 2) := by decide +kernel
theorem dX6_shift_28 : decode cX6_shift 28 = .ok (.bipush 20, 2) := by decide +kernel
theorem dX6_shift_30 : decode cX6_shift 30 = .ok (.if_icmp .gt 11, 3) := by decide +kernel
theorem dX6_shift_33 : decode cX6_shift 33 = .ok (.iload 5, 2) := by decide +kernel
theorem dX6_shift_35 : decode cX6_shift 35 = .ok (.invokestatic 153, 3) := by decide +kernel
theorem dX6_shift_38 : decode cX6_shift 38 = .ok (.ifCond .ne 6, 3) := by decide +kernel
theorem dX6_shift_41 : decode cX6_shift 41 = .ok (.bipush (-2), 2) := by decide +kernel
theorem dX6_shift_43 : decode cX6_shift 43 = .ok (.ireturn, 1) := by decide +kernel
theorem dX6_shift_44 : decode cX6_shift 44 = .ok (.aload_n 0, 1) := by decide +kernel
theorem dX6_shift_45 : decode cX6_shift 45 = .ok (.aload_n 0, 1) := by decide +kernel
theorem dX6_shift_46 : decode cX6_shift 46 = .ok (.getfield 13, 3) := by decide +kernel
theorem dX6_shift_49 : decode cX6_shift 49 = .ok (.iload_n 1, 1) := by decide +kernel
theorem dX6_shift_50 : decode cX6_shift 50 = .ok (.aaload, 1) := by decide +kernel
theorem dX6_shift_51 : decode cX6_shift 51 = .ok (.iload_n 2, 1) := by decide +kernel
theorem dX6_shift_52 : decode cX6_shift 52 = .ok (.iload_n 3, 1) := by decide +kernel
theorem dX6_shift_53 : decode cX6_shift 53 = .ok (.iload 4, 2) := by decide +kernel
theorem dX6_shift_55 : decode cX6_shift 55 = .ok (.invokevirtual 156, 3) := by decide +kernel
theorem dX6_shift_58 : decode cX6_shift 58 = .ok (.istore 6, 2) := by decide +kernel
theorem dX6_shift_60 : decode cX6_shift 60 = .ok (.iload 6, 2) := by decide +kernel
theorem dX6_shift_62 : decode cX6_shift 62 = .ok (.ifCond .eq 6, 3) := by decide +kernel
theorem dX6_shift_65 : decode cX6_shift 65 = .ok (.iload 6, 2) := by decide +kernel
theorem dX6_shift_67 : decode cX6_shift 67 = .ok (.ireturn, 1) := by decide +kernel
theorem dX6_shift_68 : decode cX6_shift 68 = .ok (.aload_n 0, 1) := by decide +kernel
theorem dX6_shift_69 : decode cX6_shift 69 = .ok (.getfield 45, 3) := by decide +kernel
theorem dX6_shift_72 : decode cX6_shift 72 = .ok (.iconst 0, 1) := by decide +kernel
theorem dX6_shift_73 : decode cX6_shift 73 = .ok (.aaload, 1) := by decide +kernel
theorem dX6_shift_74 : decode cX6_shift 74 = .ok (.astore 7, 2) := by decide +kernel
theorem dX6_shift_76 : decode cX6_shift 76 = .ok (.aload 7, 2) := by decide +kernel
theorem dX6_shift_78 : decode cX6_shift 78 = .ok (.aload_n 0, 1) := by decide +kernel
theorem dX6_shift_79 : decode cX6_shift 79 = .ok (.getfield 27, 3) := by decide +kernel
theorem dX6_shift_82 : decode cX6_shift 82 = .ok (.invokevirtual 160, 3) := by decide +kernel
theorem dX6_shift_85 : decode cX6_shift 85 = .ok (.iconst 0, 1) := by decide +kernel
theorem dX6_shift_86 : decode cX6_shift 86 = .ok (.istore 8, 2) := by decide +kernel
theorem dX6_shift_88 : decode cX6_shift 88 = .ok (.bipush (-9), 2) := by decide +kernel
theorem dX6_shift_90 : decode cX6_shift 90 = .ok (.istore 9, 2) := by decide +kernel
theorem dX6_shift_92 : decode cX6_shift 92 = .ok (.iconst 0, 1) := by decide +kernel
theorem dX6_shift_93 : decode cX6_shift 93 = .ok (.istore 10, 2) := by decide +kernel
theorem dX6_shift_95 : decode cX6_shift 95 = .ok (.iload 10, 2) := by decide +kernel
theorem dX6_shift_97 : decode cX6_shift 97 = .ok (.aload_n 0, 1) := by decide +kernel
theorem dX6_shift_98 : decode cX6_shift 98 = .ok (.getfield 41, 3) := by decide +kernel
theorem dX6_shift_101 : decode cX6_shift 101 = .ok (.getfield 164, 3) := by decide +kernel
theorem dX6_shift_104 : decode cX6_shift 104 = .ok (.if_icmp .ge 70, 3) := by decide +kernel
theorem dX6_shift_107 : decode cX6_shift 107 = .ok (.aload_n 0, 1) := by decide +kernel
theorem dX6_shift_108 : decode cX6_shift 108 = .ok (.getfield 20, 3) := by decide +kernel
theorem dX6_shift_111 : decode cX6_shift 111 = .ok (.aload 7, 2) := by decide +kernel
theorem dX6_shift_113 : decode cX6_shift 113 = .ok (.aload_n 0, 1) := by decide +kernel
theorem dX6_shift_114 : decode cX6_shift 114 = .ok (.getfield 20, 3) := by decide +kernel
theorem dX6_shift_117 : decode cX6_shift 117 = .ok (.getfield 121, 3) := by decide +kernel
theorem dX6_shift_120 : decode cX6_shift 120 = .ok (.aload_n 0, 1) := by decide +kernel
theorem dX6_shift_121 : decode cX6_shift 121 = .ok (.getfield 41, 3) := by decide +kernel
theorem dX6_shift_124 : decode cX6_shift 124 = .ok (.getfield 167, 3) := by decide +kernel
theorem dX6_shift_127 : decode cX6_shift 127 = .ok (.iload 10, 2) := by decide +kernel
theorem dX6_shift_129 : decode cX6_shift 129 = .ok (.iaload, 1) := by decide +kernel
theorem dX6_shift_130 : decode cX6_shift 130 = .ok (.aload_n 0, 1) := by decide +kernel
theorem dX6_shift_131 : decode cX6_shift 131 = .ok (.getfield 41, 3) := by decide +kernel
theorem dX6_shift_134 : decode cX6_shift 134 = .ok (.getfield 169, 3) := by decide +kernel
theorem dX6_shift_137 : decode cX6_shift 137 = .ok (.iload 10, 2) := by decide +kernel
theorem dX6_shift_139 : decode cX6_shift 139 = .ok (.iaload, 1) := by decide +kernel
theorem dX6_shift_140 : decode cX6_shift 140 = .ok (.invokevirtual 133, 3) := by decide +kernel
theorem dX6_shift_143 : decode cX6_shift 143 = .ok (.istore 11, 2) := by decide +kernel
theorem dX6_shift_145 : decode cX6_shift 145 = .ok (.iload 11, 2) := by decide +kernel
theorem dX6_shift_147 : decode cX6_shift 147 = .ok (.ifCond .eq 14, 3) := by decide +kernel
theorem dX6_shift_150 : decode cX6_shift 150 = .ok (.iload 9, 2) := by decide +kernel
theorem dX6_shift_152 : decode cX6_shift 152 = .ok (.bipush (-9), 2) := by decide +kernel
theorem dX6_shift_154 : decode cX6_shift 154 = .ok (.if_icmp .ne 7, 3) := by decide +kernel
theorem dX6_shift_157 : decode cX6_shift 157 = .ok (.iload 10, 2) := by decide +kernel
theorem dX6_shift_159 : decode cX6_shift 159 = .ok (.istore 9, 2) := by decide +kernel
theorem dX6_shift_161 : decode cX6_shift 161 = .ok (.iload 8, 2) := by decide +kernel
theorem dX6_shift_163 : decode cX6_shift 163 = .ok (.iload 11, 2) := by decide +kernel
theorem dX6_shift_165 : decode cX6_shift 165 = .ok (.ior, 1) := by decide +kernel
theorem dX6_shift_166 : decode cX6_shift 166 = .ok (.istore 8, 2) := by decide +kernel
theorem dX6_shift_168 : decode cX6_shift 168 = .ok (.iinc 10 1, 3) := by decide +kernel
theorem dX6_shift_171 : decode cX6_shift 171 = .ok (.goto (-76), 3) := by decide +kernel
theorem dX6_shift_174 : decode cX6_shift 174 = .ok (.iload 5, 2) := by decide +kernel
theorem dX6_shift_176 : decode cX6_shift 176 = .ok (.tableswitch 54 0 3 #[32, 38, 41, 47], 32) := by decide +kernel
theorem dX6_shift_208 : decode cX6_shift 208 = .ok (.iload 8, 2) := by decide +kernel
theorem dX6_shift_210 : decode cX6_shift 210 = .ok (.invokestatic 148, 3) := by decide +kernel
theorem dX6_shift_213 : decode cX6_shift 213 = .ok (.ireturn, 1) := by decide +kernel
theorem dX6_shift_214 : decode cX6_shift 214 = .ok (.iload 9, 2) := by decide +kernel
theorem dX6_shift_216 : decode cX6_shift 216 = .ok (.ireturn, 1) := by decide +kernel
theorem dX6_shift_217 : decode cX6_shift 217 = .ok (.aload 7, 2) := by decide +kernel
theorem dX6_shift_219 : decode cX6_shift 219 = .ok (.getfield 115, 3) := by decide +kernel
theorem dX6_shift_222 : decode cX6_shift 222 = .ok (.ireturn, 1) := by decide +kernel
theorem dX6_shift_223 : decode cX6_shift 223 = .ok (.aload_n 0, 1) := by decide +kernel
theorem dX6_shift_224 : decode cX6_shift 224 = .ok (.aload 7, 2) := by decide +kernel
theorem dX6_shift_226 : decode cX6_shift 226 = .ok (.invokevirtual 172, 3) := by decide +kernel
theorem dX6_shift_229 : decode cX6_shift 229 = .ok (.ireturn, 1) := by decide +kernel
theorem dX6_shift_230 : decode cX6_shift 230 = .ok (.aload_n 0, 1) := by decide +kernel
theorem dX6_shift_231 : decode cX6_shift 231 = .ok (.iload 5, 2) := by decide +kernel
theorem dX6_shift_233 : decode cX6_shift 233 = .ok (.bipush 10, 2) := by decide +kernel
theorem dX6_shift_235 : decode cX6_shift 235 = .ok (.isub, 1) := by decide +kernel
theorem dX6_shift_236 : decode cX6_shift 236 = .ok (.invokevirtual 100, 3) := by decide +kernel
theorem dX6_shift_239 : decode cX6_shift 239 = .ok (.ifCond .eq 17, 3) := by decide +kernel
theorem dX6_shift_242 : decode cX6_shift 242 = .ok (.aload 7, 2) := by decide +kernel
theorem dX6_shift_244 : decode cX6_shift 244 = .ok (.getfield 106, 3) := by decide +kernel
theorem dX6_shift_247 : decode cX6_shift 247 = .ok (.iload 5, 2) := by decide +kernel
theorem dX6_shift_249 : decode cX6_shift 249 = .ok (.bipush 10, 2) := by decide +kernel
theorem dX6_shift_251 : decode cX6_shift 251 = .ok (.isub, 1) := by decide +kernel
theorem dX6_shift_252 : decode cX6_shift 252 = .ok (.iaload, 1) := by decide +kernel
theorem dX6_shift_253 : decode cX6_shift 253 = .ok (.goto 5, 3) := by decide +kernel
theorem dX6_shift_256 : decode cX6_shift 256 = .ok (.bipush (-9), 2) := by decide +kernel
theorem dX6_shift_258 : decode cX6_shift 258 = .ok (.ireturn, 1) := by decide +kernel
set_option maxRecDepth 20000 in
theorem ggX6_order_X6_isSheet : GoodIn wsX6_order wsX6_isSheet := goodIn_r _ [12] (by decide +kernel) (by decide +kernel)
set_option maxRecDepth 20000 in
theorem gX6_order_X6_isSheet : GoodIn wsX6_order (va_wsS RX6 71 yX6_isSheet wsX6_isSheet) := goodIn_app (goodIn_of _ (by decide +kernel)) ggX6_order_X6_isSheet
set_option maxRecDepth 20000 in
theorem ggX6_order_X6_isLane : GoodIn wsX6_order wsX6_isLane := goodIn_r _ [15] (by decide +kernel) (by decide +kernel)
set_option maxRecDepth 20000 in
theorem gX6_order_X6_isLane : GoodIn wsX6_order (va_wsS RX6 75 yX6_isLane wsX6_isLane) := goodIn_app (goodIn_of _ (by decide +kernel)) ggX6_order_X6_isLane
set_option maxRecDepth 20000 in
theorem ggX6_order_X6_takePairs : GoodIn wsX6_order wsX6_takePairs := goodIn_r _ [19, 20, 3, 21, 22, 4, 23, 24, 25, 26, 27, 28, 29, 30, 31, 32, 33, 34, 35, 36, 37, 11, 38, 1, 39, 40, 41, 42, 7, 43, 44, 45, 46, 47, 48, 49, 50, 51, 52, 125, 126, 127, 128, 111, 112, 113, 114, 115, 116, 117, 118, 119, 120, 121, 122, 123, 124, 129, 130, 131, 132, 133, 134] (by decide +kernel) (by decide +kernel)
set_option maxRecDepth 20000 in
theorem gX6_order_X6_takePairs : GoodIn wsX6_order (wsV RX6 156 RX6 yX6_takePairs wsX6_takePairs) := goodIn_app (goodIn_of _ (by decide +kernel)) ggX6_order_X6_takePairs
set_option maxRecDepth 20000 in
theorem ggX6_order_X0_becomeLike : GoodIn wsX6_order wsX0_becomeLike := goodIn_r _ [57, 58, 59, 60, 61, 62, 63, 135, 136] (by decide +kernel) (by decide +kernel)
set_option maxRecDepth 20000 in
theorem gX6_order_X0_becomeLike : GoodIn wsX6_order (wsV RX6 160 RX0 yX0_becomeLike wsX0_becomeLike) := goodIn_app (goodIn_of _ (by decide +kernel)) ggX6_order_X0_becomeLike
set_option maxRecDepth 20000 in
theorem ggX6_order_X6_endsOrder : GoodIn wsX6_order wsX6_endsOrder := goodIn_r _ [66, 4, 67, 21, 22, 53, 54, 55, 56, 57, 58, 59, 60, 61, 62, 63, 68, 69, 70, 71, 72, 73, 74, 75, 76, 77, 78, 79, 80, 81, 82, 83, 84, 85, 86, 87, 88, 89, 90, 91, 92, 93, 94, 95, 96, 97, 98, 99, 100, 101, 102, 103, 104, 105, 106, 107, 108, 109, 11, 110, 64, 65, 122, 123, 124, 129, 130, 131, 132, 133, 134, 135, 136] (by decide +kernel) (by decide +kernel)
set_option maxRecDepth 20000 in
theorem gX6_order_X6_endsOrder : GoodIn wsX6_order (va_wsS RX6 176 yX6_endsOrder wsX6_endsOrder) := goodIn_app (goodIn_of _ (by decide +kernel)) ggX6_order_X6_endsOrder
theorem dX6_order_0 : decode cX6_order 0 = .ok (.aload_n 0, 1) := by decide +kernel
theorem dX6_order_1 : decode cX6_order 1 = .ok (.iconst 0, 1) := by decide +kernel
theorem dX6_order_2 : decode cX6_order 2 = .ok (.putfield 67, 3) := by decide +kernel
theorem dX6_order_5 : decode cX6_order 5 = .ok (.iload_n 1, 1) := by decide +kernel
theorem dX6_order_6 : decode cX6_order 6 = .ok (.invokestatic 71, 3) := by decide +kernel
theorem dX6_order_9 : decode cX6_order 9 = .ok (.ifCond .ne 5, 3) := by decide +kernel
theorem dX6_order_12 : decode cX6_order 12 = .ok (.iconst (-1), 1) := by decide +kernel
theorem dX6_order_13 : decode cX6_order 13 = .ok (.ireturn, 1) := by decide +kernel
theorem dX6_order_14 : decode cX6_order 14 = .ok (.iload_n 2, 1) := by decide +kernel
theorem dX6_order_15 : decode cX6_order 15 = .ok (.invokestatic 75, 3) := by decide +kernel
theorem dX6_order_18 : decode cX6_order 18 = .ok (.ifCond .eq 27, 3) := by decide +kernel
theorem dX6_order_21 : decode cX6_order 21 = .ok (.iload 4, 2) := by decide +kernel
theorem dX6_order_23 : decode cX6_order 23 = .ok (.ifCond .lt 22, 3) := by decide +kernel
theorem dX6_order_26 : decode cX6_order 26 = .ok (.iload 4, 2) := by decide +kernel
theorem dX6_order_28 : decode cX6_order 28 = .ok (.bipush 6, 2) := by decide +kernel
theorem dX6_order_30 : decode cX6_order 30 = .ok (.if_icmp .gt 15, 3) := by decide +kernel
theorem dX6_order_33 : decode cX6_order 33 = .ok (.iload 5, 2) := by decide +kernel
theorem dX6_order_35 : decode cX6_order 35 = .ok (.ifCond .lt 10, 3) := by decide +kernel
theorem dX6_order_38 : decode cX6_order 38 = .ok (.iload 5, 2) := by decide +kernel
theorem dX6_order_40 : decode cX6_order 40 = .ok (.bipush 6, 2) := by decide +kernel
theorem dX6_order_42 : decode cX6_order 42 = .ok (.if_icmp .lt 6, 3) := by decide +kernel
theorem dX6_order_45 : decode cX6_order 45 = .ok (.bipush (-2), 2) := by decide +kernel
theorem dX6_order_47 : decode cX6_order 47 = .ok (.ireturn, 1) := by decide +kernel
theorem dX6_order_48 : decode cX6_order 48 = .ok (.aload_n 0, 1) := by decide +kernel
theorem dX6_order_49 : decode cX6_order 49 = .ok (.aload_n 0, 1) := by decide +kernel
theorem dX6_order_50 : decode cX6_order 50 = .ok (.getfield 13, 3) := by decide +kernel
theorem dX6_order_53 : decode cX6_order 53 = .ok (.iload_n 1, 1) := by decide +kernel
theorem dX6_order_54 : decode cX6_order 54 = .ok (.aaload, 1) := by decide +kernel
theorem dX6_order_55 : decode cX6_order 55 = .ok (.iload_n 2, 1) := by decide +kernel
theorem dX6_order_56 : decode cX6_order 56 = .ok (.iload_n 3, 1) := by decide +kernel
theorem dX6_order_57 : decode cX6_order 57 = .ok (.iload 4, 2) := by decide +kernel
theorem dX6_order_59 : decode cX6_order 59 = .ok (.invokevirtual 156, 3) := by decide +kernel
theorem dX6_order_62 : decode cX6_order 62 = .ok (.istore 6, 2) := by decide +kernel
theorem dX6_order_64 : decode cX6_order 64 = .ok (.iload 6, 2) := by decide +kernel
theorem dX6_order_66 : decode cX6_order 66 = .ok (.ifCond .eq 6, 3) := by decide +kernel
theorem dX6_order_69 : decode cX6_order 69 = .ok (.iload 6, 2) := by decide +kernel
theorem dX6_order_71 : decode cX6_order 71 = .ok (.ireturn, 1) := by decide +kernel
theorem dX6_order_72 : decode cX6_order 72 = .ok (.iload 5, 2) := by decide +kernel
theorem dX6_order_74 : decode cX6_order 74 = .ok (.aload_n 0, 1) := by decide +kernel
theorem dX6_order_75 : decode cX6_order 75 = .ok (.getfield 41, 3) := by decide +kernel
theorem dX6_order_78 : decode cX6_order 78 = .ok (.getfield 164, 3) := by decide +kernel
theorem dX6_order_81 : decode cX6_order 81 = .ok (.if_icmp .lt 6, 3) := by decide +kernel
theorem dX6_order_84 : decode cX6_order 84 = .ok (.bipush (-9), 2) := by decide +kernel
theorem dX6_order_86 : decode cX6_order 86 = .ok (.ireturn, 1) := by decide +kernel
theorem dX6_order_87 : decode cX6_order 87 = .ok (.aload_n 0, 1) := by decide +kernel
theorem dX6_order_88 : decode cX6_order 88 = .ok (.getfield 45, 3) := by decide +kernel
theorem dX6_order_91 : decode cX6_order 91 = .ok (.iconst 0, 1) := by decide +kernel
theorem dX6_order_92 : decode cX6_order 92 = .ok (.aaload, 1) := by decide +kernel
theorem dX6_order_93 : decode cX6_order 93 = .ok (.aload_n 0, 1) := by decide +kernel
theorem dX6_order_94 : decode cX6_order 94 = .ok (.getfield 27, 3) := by decide +kernel
theorem dX6_order_97 : decode cX6_order 97 = .ok (.invokevirtual 160, 3) := by decide +kernel
theorem dX6_order_100 : decode cX6_order 100 = .ok (.aload_n 0, 1) := by decide +kernel
theorem dX6_order_101 : decode cX6_order 101 = .ok (.getfield 20, 3) := by decide +kernel
theorem dX6_order_104 : decode cX6_order 104 = .ok (.aload_n 0, 1) := by decide +kernel
theorem dX6_order_105 : decode cX6_order 105 = .ok (.getfield 41, 3) := by decide +kernel
theorem dX6_order_108 : decode cX6_order 108 = .ok (.aload_n 0, 1) := by decide +kernel
theorem dX6_order_109 : decode cX6_order 109 = .ok (.getfield 45, 3) := by decide +kernel
theorem dX6_order_112 : decode cX6_order 112 = .ok (.aload_n 0, 1) := by decide +kernel
theorem dX6_order_113 : decode cX6_order 113 = .ok (.getfield 49, 3) := by decide +kernel
theorem dX6_order_116 : decode cX6_order 116 = .ok (.iconst 0, 1) := by decide +kernel
theorem dX6_order_117 : decode cX6_order 117 = .ok (.iconst 0, 1) := by decide +kernel
theorem dX6_order_118 : decode cX6_order 118 = .ok (.invokestatic 176, 3) := by decide +kernel
theorem dX6_order_121 : decode cX6_order 121 = .ok (.ifCond .eq 13, 3) := by decide +kernel
theorem dX6_order_124 : decode cX6_order 124 = .ok (.aload_n 0, 1) := by decide +kernel
theorem dX6_order_125 : decode cX6_order 125 = .ok (.getfield 49, 3) := by decide +kernel
theorem dX6_order_128 : decode cX6_order 128 = .ok (.iload 5, 2) := by decide +kernel
theorem dX6_order_130 : decode cX6_order 130 = .ok (.iaload, 1) := by decide +kernel
theorem dX6_order_131 : decode cX6_order 131 = .ok (.goto 5, 3) := by decide +kernel
theorem dX6_order_134 : decode cX6_order 134 = .ok (.bipush (-9), 2) := by decide +kernel
theorem dX6_order_136 : decode cX6_order 136 = .ok (.ireturn, 1) := by decide +kernel
set_option maxRecDepth 20000 in
theorem ggX6_shut_X6_isSheet : GoodIn wsX6_shut wsX6_isSheet := goodIn_r _ [8] (by decide +kernel) (by decide +kernel)
set_option maxRecDepth 20000 in
theorem gX6_shut_X6_isSheet : GoodIn wsX6_shut (va_wsS RX6 71 yX6_isSheet wsX6_isSheet) := goodIn_app (goodIn_of _ (by decide +kernel)) ggX6_shut_X6_isSheet
set_option maxRecDepth 20000 in
theorem ggX6_shut_X6_isLane : GoodIn wsX6_shut wsX6_isLane := goodIn_r _ [11] (by decide +kernel) (by decide +kernel)
set_option maxRecDepth 20000 in
theorem gX6_shut_X6_isLane : GoodIn wsX6_shut (va_wsS RX6 75 yX6_isLane wsX6_isLane) := goodIn_app (goodIn_of _ (by decide +kernel)) ggX6_shut_X6_isLane
set_option maxRecDepth 20000 in
theorem ggX6_shut_X6_takePairs : GoodIn wsX6_shut wsX6_takePairs := goodIn_r _ [15, 16, 17, 18, 19, 20, 21, 22, 23, 24, 25, 26, 27, 28, 29, 30, 31, 32, 33, 34, 35, 7, 36, 1, 37, 38, 39, 40, 3, 4, 41, 42, 43, 44, 45, 46, 47, 48, 49, 134, 135, 136, 137, 117, 118, 119, 120, 121, 122, 123, 124, 125, 126, 127, 138, 139, 140, 128, 129, 130, 131, 132, 133] (by decide +kernel) (by decide +kernel)
set_option maxRecDepth 20000 in
theorem gX6_shut_X6_takePairs : GoodIn wsX6_shut (wsV RX6 156 RX6 yX6_takePairs wsX6_takePairs) := goodIn_app (goodIn_of _ (by decide +kernel)) ggX6_shut_X6_takePairs
set_option maxRecDepth 20000 in
theorem ggX6_shut_X6_dropsWithDoors : GoodIn wsX6_shut wsX6_dropsWithDoors := goodIn_r _ [53, 54, 55, 17, 20, 3, 18, 19, 56, 57, 58, 59, 60, 61, 62, 63, 64, 65, 66, 67, 68, 69, 70, 71, 72, 73, 74, 75, 76, 77, 78, 79, 80, 81, 82, 83, 84, 85, 86, 87, 88, 89, 90, 91, 92, 93, 94, 95, 96, 97, 98, 99, 100, 101, 102, 103, 104, 105, 106, 107, 108, 7, 109, 110, 111, 112, 113, 114, 115, 116, 117, 118, 119, 120, 121, 122, 123, 124, 125, 126, 127, 138, 139, 140, 141, 142, 128, 129, 130, 131, 132, 133] (by decide +kernel) (by decide +kernel)
set_option maxRecDepth 20000 in
theorem gX6_shut_X6_dropsWithDoors : GoodIn wsX6_shut (wsV RX6 180 RX6 yX6_dropsWithDoors wsX6_dropsWithDoors) := goodIn_app (goodIn_of _ (by decide +kernel)) ggX6_shut_X6_dropsWithDoors
set_option maxRecDepth 20000 in
theorem ggX6_shut_J6_bitCount_0f7a4 : GoodIn wsX6_shut wsJ6_bitCount_0f7a4 := goodIn_r _ [113, 114, 115, 116] (by decide +kernel) (by decide +kernel)
set_option maxRecDepth 20000 in
theorem gX6_shut_J6_bitCount_0f7a4 : GoodIn wsX6_shut (va_wsS RX6 148 yJ6_bitCount_0f7a4 wsJ6_bitCount_0f7a4) := goodIn_app (goodIn_of _ (by decide +kernel)) ggX6_shut_J6_bitCount_0f7a4
theorem dX6_shut_0 : decode cX6_shut 0 = .ok (.aload_n 0, 1) := by decide +kernel
theorem dX6_shut_1 : decode cX6_shut 1 = .ok (.iconst 0, 1) := by decide +kernel
theorem dX6_shut_2 : decode cX6_shut 2 = .ok (.putfield 67, 3) := by decide +kernel
theorem dX6_shut_5 : decode cX6_shut 5 = .ok (.iload_n 1, 1) := by decide +kernel
theorem dX6_shut_6 : decode cX6_shut 6 = .ok (.invokestatic 71, 3) := by decide +kernel
theorem dX6_shut_9 : decode cX6_shut 9 = .ok (.ifCond .ne 5, 3) := by decide +kernel
theorem dX6_shut_12 : decode cX6_shut 12 = .ok (.iconst (-1), 1) := by decide +kernel
theorem dX6_shut_13 : decode cX6_shut 13 = .ok (.ireturn, 1) := by decide +kernel
theorem dX6_shut_14 : decode cX6_shut 14 = .ok (.iload_n 2, 1) := by decide +kernel
theorem dX6_shut_15 : decode cX6_shut 15 = .ok (.invokestatic 75, 3) := by decide +kernel
theorem dX6_shut_18 : decode cX6_shut 18 = .ok (.ifCond .eq 26, 3) := by decide +kernel
theorem dX6_shut_21 : decode cX6_shut 21 = .ok (.iload 4, 2) := by decide +kernel
theorem dX6_shut_23 : decode cX6_shut 23 = .ok (.ifCond .lt 21, 3) := by decide +kernel
theorem dX6_shut_26 : decode cX6_shut 26 = .ok (.iload 4, 2) := by decide +kernel
theorem dX6_shut_28 : decode cX6_shut 28 = .ok (.bipush 20, 2) := by decide +kernel
theorem dX6_shut_30 : decode cX6_shut 30 = .ok (.if_icmp .gt 14, 3) := by decide +kernel
theorem dX6_shut_33 : decode cX6_shut 33 = .ok (.iload 5, 2) := by decide +kernel
theorem dX6_shut_35 : decode cX6_shut 35 = .ok (.ifCond .lt 9, 3) := by decide +kernel
theorem dX6_shut_38 : decode cX6_shut 38 = .ok (.iload 5, 2) := by decide +kernel
theorem dX6_shut_40 : decode cX6_shut 40 = .ok (.iconst 1, 1) := by decide +kernel
theorem dX6_shut_41 : decode cX6_shut 41 = .ok (.if_icmp .le 6, 3) := by decide +kernel
theorem dX6_shut_44 : decode cX6_shut 44 = .ok (.bipush (-2), 2) := by decide +kernel
theorem dX6_shut_46 : decode cX6_shut 46 = .ok (.ireturn, 1) := by decide +kernel
theorem dX6_shut_47 : decode cX6_shut 47 = .ok (.aload_n 0, 1) := by decide +kernel
theorem dX6_shut_48 : decode cX6_shut 48 = .ok (.aload_n 0, 1) := by decide +kernel
theorem dX6_shut_49 : decode cX6_shut 49 = .ok (.getfield 13, 3) := by decide +kernel
theorem dX6_shut_52 : decode cX6_shut 52 = .ok (.iload_n 1, 1) := by decide +kernel
theorem dX6_shut_53 : decode cX6_shut 53 = .ok (.aaload, 1) := by decide +kernel
theorem dX6_shut_54 : decode cX6_shut 54 = .ok (.iload_n 2, 1) := by decide +kernel
theorem dX6_shut_55 : decode cX6_shut 55 = .ok (.iload_n 3, 1) := by decide +kernel
theorem dX6_shut_56 : decode cX6_shut 56 = .ok (.iload 4, 2) := by decide +kernel
theorem dX6_shut_58 : decode cX6_shut 58 = .ok (.invokevirtual 156, 3) := by decide +kernel
theorem dX6_shut_61 : decode cX6_shut 61 = .ok (.istore 6, 2) := by decide +kernel
theorem dX6_shut_63 : decode cX6_shut 63 = .ok (.iload 6, 2) := by decide +kernel
theorem dX6_shut_65 : decode cX6_shut 65 = .ok (.ifCond .eq 6, 3) := by decide +kernel
theorem dX6_shut_68 : decode cX6_shut 68 = .ok (.iload 6, 2) := by decide +kernel
theorem dX6_shut_70 : decode cX6_shut 70 = .ok (.ireturn, 1) := by decide +kernel
theorem dX6_shut_71 : decode cX6_shut 71 = .ok (.iconst 0, 1) := by decide +kernel
theorem dX6_shut_72 : decode cX6_shut 72 = .ok (.istore 7, 2) := by decide +kernel
theorem dX6_shut_74 : decode cX6_shut 74 = .ok (.aload_n 0, 1) := by decide +kernel
theorem dX6_shut_75 : decode cX6_shut 75 = .ok (.iconst 0, 1) := by decide +kernel
theorem dX6_shut_76 : decode cX6_shut 76 = .ok (.invokevirtual 180, 3) := by decide +kernel
theorem dX6_shut_79 : decode cX6_shut 79 = .ok (.istore 8, 2) := by decide +kernel
theorem dX6_shut_81 : decode cX6_shut 81 = .ok (.iconst 1, 1) := by decide +kernel
theorem dX6_shut_82 : decode cX6_shut 82 = .ok (.istore 9, 2) := by decide +kernel
theorem dX6_shut_84 : decode cX6_shut 84 = .ok (.iload 9, 2) := by decide +kernel
theorem dX6_shut_86 : decode cX6_shut 86 = .ok (.iconst 1, 1) := by decide +kernel
theorem dX6_shut_87 : decode cX6_shut 87 = .ok (.aload_n 0, 1) := by decide +kernel
theorem dX6_shut_88 : decode cX6_shut 88 = .ok (.getfield 20, 3) := by decide +kernel
theorem dX6_shut_91 : decode cX6_shut 91 = .ok (.getfield 97, 3) := by decide +kernel
theorem dX6_shut_94 : decode cX6_shut 94 = .ok (.iconst 1, 1) := by decide +kernel
theorem dX6_shut_95 : decode cX6_shut 95 = .ok (.isub, 1) := by decide +kernel
theorem dX6_shut_96 : decode cX6_shut 96 = .ok (.ishl, 1) := by decide +kernel
theorem dX6_shut_97 : decode cX6_shut 97 = .ok (.if_icmp .ge 52, 3) := by decide +kernel
theorem dX6_shut_100 : decode cX6_shut 100 = .ok (.aload_n 0, 1) := by decide +kernel
theorem dX6_shut_101 : decode cX6_shut 101 = .ok (.iload 9, 2) := by decide +kernel
theorem dX6_shut_103 : decode cX6_shut 103 = .ok (.invokevirtual 180, 3) := by decide +kernel
theorem dX6_shut_106 : decode cX6_shut 106 = .ok (.istore 10, 2) := by decide +kernel
theorem dX6_shut_108 : decode cX6_shut 108 = .ok (.iload 10, 2) := by decide +kernel
theorem dX6_shut_110 : decode cX6_shut 110 = .ok (.iload 8, 2) := by decide +kernel
theorem dX6_shut_112 : decode cX6_shut 112 = .ok (.if_icmp .lt 23, 3) := by decide +kernel
theorem dX6_shut_115 : decode cX6_shut 115 = .ok (.iload 10, 2) := by decide +kernel
theorem dX6_shut_117 : decode cX6_shut 117 = .ok (.iload 8, 2) := by decide +kernel
theorem dX6_shut_119 : decode cX6_shut 119 = .ok (.if_icmp .ne 24, 3) := by decide +kernel
theorem dX6_shut_122 : decode cX6_shut 122 = .ok (.iload 9, 2) := by decide +kernel
theorem dX6_shut_124 : decode cX6_shut 124 = .ok (.invokestatic 148, 3) := by decide +kernel
theorem dX6_shut_127 : decode cX6_shut 127 = .ok (.iload 7, 2) := by decide +kernel
theorem dX6_shut_129 : decode cX6_shut 129 = .ok (.invokestatic 148, 3) := by decide +kernel
theorem dX6_shut_132 : decode cX6_shut 132 = .ok (.if_icmp .ge 11, 3) := by decide +kernel
theorem dX6_shut_135 : decode cX6_shut 135 = .ok (.iload 9, 2) := by decide +kernel
theorem dX6_shut_137 : decode cX6_shut 137 = .ok (.istore 7, 2) := by decide +kernel
theorem dX6_shut_139 : decode cX6_shut 139 = .ok (.iload 10, 2) := by decide +kernel
theorem dX6_shut_141 : decode cX6_shut 141 = .ok (.istore 8, 2) := by decide +kernel
theorem dX6_shut_143 : decode cX6_shut 143 = .ok (.iinc 9 1, 3) := by decide +kernel
theorem dX6_shut_146 : decode cX6_shut 146 = .ok (.goto (-62), 3) := by decide +kernel
theorem dX6_shut_149 : decode cX6_shut 149 = .ok (.iload 5, 2) := by decide +kernel
theorem dX6_shut_151 : decode cX6_shut 151 = .ok (.ifCond .ne 8, 3) := by decide +kernel
theorem dX6_shut_154 : decode cX6_shut 154 = .ok (.iload 7, 2) := by decide +kernel
theorem dX6_shut_156 : decode cX6_shut 156 = .ok (.goto 5, 3) := by decide +kernel
theorem dX6_shut_159 : decode cX6_shut 159 = .ok (.iload 8, 2) := by decide +kernel
theorem dX6_shut_161 : decode cX6_shut 161 = .ok (.ireturn, 1) := by decide +kernel
set_option maxRecDepth 20000 in
theorem ggX6_rests_X6_hasMine : GoodIn wsX6_rests wsX6_hasMine := goodIn_r _ [9, 3, 10, 33, 34, 35, 36, 37, 38, 39, 40, 41, 42, 43, 44, 45, 46, 47, 48, 49] (by decide +kernel) (by decide +kernel)
set_option maxRecDepth 20000 in
theorem gX6_rests_X6_hasMine : GoodIn wsX6_rests (wsV RX6 137 RX6 yX6_hasMine wsX6_hasMine) := goodIn_app (goodIn_of _ (by decide +kernel)) ggX6_rests_X6_hasMine
set_option maxRecDepth 20000 in
theorem ggX6_rests_X0_becomeLike : GoodIn wsX6_rests wsX0_becomeLike := goodIn_r _ [15, 16, 17, 18, 19, 20, 21, 50, 51] (by decide +kernel) (by decide +kernel)
set_option maxRecDepth 20000 in
theorem gX6_rests_X0_becomeLike : GoodIn wsX6_rests (wsV RX6 160 RX0 yX0_becomeLike wsX0_becomeLike) := goodIn_app (goodIn_of _ (by decide +kernel)) ggX6_rests_X0_becomeLike
set_option maxRecDepth 20000 in
theorem ggX6_rests_X2_passAir : GoodIn wsX6_rests wsX2_passAir := goodIn_r _ [26, 27, 28, 29, 30, 31, 32, 44, 45, 46, 47, 48, 49, 50, 51] (by decide +kernel) (by decide +kernel)
set_option maxRecDepth 20000 in
theorem gX6_rests_X2_passAir : GoodIn wsX6_rests (wsV RX6 183 RX2 yX2_passAir wsX2_passAir) := goodIn_app (goodIn_of _ (by decide +kernel)) ggX6_rests_X2_passAir
theorem dX6_rests_0 : decode cX6_rests 0 = .ok (.aload_n 0, 1) := by decide +kernel
theorem dX6_rests_1 : decode cX6_rests 1 = .ok (.invokevirtual 137, 3) := by decide +kernel
theorem dX6_rests_4 : decode cX6_rests 4 = .ok (.ifCond .ne 6, 3) := by decide +kernel
theorem dX6_rests_7 : decode cX6_rests 7 = .ok (.bipush (-3), 2) := by decide +kernel
theorem dX6_rests_9 : decode cX6_rests 9 = .ok (.ireturn, 1) := by decide +kernel
theorem dX6_rests_10 : decode cX6_rests 10 = .ok (.aload_n 0, 1) := by decide +kernel
theorem dX6_rests_11 : decode cX6_rests 11 = .ok (.getfield 45, 3) := by decide +kernel
theorem dX6_rests_14 : decode cX6_rests 14 = .ok (.iconst 0, 1) := by decide +kernel
theorem dX6_rests_15 : decode cX6_rests 15 = .ok (.aaload, 1) := by decide +kernel
theorem dX6_rests_16 : decode cX6_rests 16 = .ok (.astore_n 1, 1) := by decide +kernel
theorem dX6_rests_17 : decode cX6_rests 17 = .ok (.aload_n 1, 1) := by decide +kernel
theorem dX6_rests_18 : decode cX6_rests 18 = .ok (.aload_n 0, 1) := by decide +kernel
theorem dX6_rests_19 : decode cX6_rests 19 = .ok (.getfield 27, 3) := by decide +kernel
theorem dX6_rests_22 : decode cX6_rests 22 = .ok (.invokevirtual 160, 3) := by decide +kernel
theorem dX6_rests_25 : decode cX6_rests 25 = .ok (.iconst 0, 1) := by decide +kernel
theorem dX6_rests_26 : decode cX6_rests 26 = .ok (.istore_n 2, 1) := by decide +kernel
theorem dX6_rests_27 : decode cX6_rests 27 = .ok (.iload_n 2, 1) := by decide +kernel
theorem dX6_rests_28 : decode cX6_rests 28 = .ok (.bipush 60, 2) := by decide +kernel
theorem dX6_rests_30 : decode cX6_rests 30 = .ok (.if_icmp .gt 29, 3) := by decide +kernel
theorem dX6_rests_33 : decode cX6_rests 33 = .ok (.aload_n 0, 1) := by decide +kernel
theorem dX6_rests_34 : decode cX6_rests 34 = .ok (.getfield 20, 3) := by decide +kernel
theorem dX6_rests_37 : decode cX6_rests 37 = .ok (.aload_n 1, 1) := by decide +kernel
theorem dX6_rests_38 : decode cX6_rests 38 = .ok (.aload_n 0, 1) := by decide +kernel
theorem dX6_rests_39 : decode cX6_rests 39 = .ok (.getfield 20, 3) := by decide +kernel
theorem dX6_rests_42 : decode cX6_rests 42 = .ok (.getfield 121, 3) := by decide +kernel
theorem dX6_rests_45 : decode cX6_rests 45 = .ok (.invokevirtual 183, 3) := by decide +kernel
theorem dX6_rests_48 : decode cX6_rests 48 = .ok (.ifCond .ne 5, 3) := by decide +kernel
theorem dX6_rests_51 : decode cX6_rests 51 = .ok (.iload_n 2, 1) := by decide +kernel
theorem dX6_rests_52 : decode cX6_rests 52 = .ok (.ireturn, 1) := by decide +kernel
theorem dX6_rests_53 : decode cX6_rests 53 = .ok (.iinc 2 1, 3) := by decide +kernel
theorem dX6_rests_56 : decode cX6_rests 56 = .ok (.goto (-29), 3) := by decide +kernel
theorem dX6_rests_59 : decode cX6_rests 59 = .ok (.bipush (-9), 2) := by decide +kernel
theorem dX6_rests_61 : decode cX6_rests 61 = .ok (.ireturn, 1) := by decide +kernel
set_option maxRecDepth 20000 in
theorem ggX6_clears_X6_isGallery : GoodIn wsX6_clears wsX6_isGallery := goodIn_r _ [10, 4, 11, 37, 38, 39, 40, 41, 42, 43, 44, 45, 46, 47, 50, 51, 52, 53, 54, 55] (by decide +kernel) (by decide +kernel)
set_option maxRecDepth 20000 in
theorem gX6_clears_X6_isGallery : GoodIn wsX6_clears (wsV RX6 100 RX6 yX6_isGallery wsX6_isGallery) := goodIn_app (goodIn_of _ (by decide +kernel)) ggX6_clears_X6_isGallery
set_option maxRecDepth 20000 in
theorem ggX6_clears_X6_isFoul : GoodIn wsX6_clears wsX6_isFoul := goodIn_r _ [14] (by decide +kernel) (by decide +kernel)
set_option maxRecDepth 20000 in
theorem gX6_clears_X6_isFoul : GoodIn wsX6_clears (va_wsS RX6 130 yX6_isFoul wsX6_isFoul) := goodIn_app (goodIn_of _ (by decide +kernel)) ggX6_clears_X6_isFoul
set_option maxRecDepth 20000 in
theorem ggX6_clears_X0_becomeLike : GoodIn wsX6_clears wsX0_becomeLike := goodIn_r _ [19, 20, 21, 22, 23, 24, 25, 48, 49] (by decide +kernel) (by decide +kernel)
set_option maxRecDepth 20000 in
theorem gX6_clears_X0_becomeLike : GoodIn wsX6_clears (wsV RX6 160 RX0 yX0_becomeLike wsX0_becomeLike) := goodIn_app (goodIn_of _ (by decide +kernel)) ggX6_clears_X0_becomeLike
set_option maxRecDepth 20000 in
theorem ggX6_clears_X2_passAir : GoodIn wsX6_clears wsX2_passAir := goodIn_r _ [30, 31, 32, 33, 34, 35, 36, 50, 51, 52, 53, 54, 55, 48, 49] (by decide +kernel) (by decide +kernel)
set_option maxRecDepth 20000 in
theorem gX6_clears_X2_passAir : GoodIn wsX6_clears (wsV RX6 183 RX2 yX2_passAir wsX2_passAir) := goodIn_app (goodIn_of _ (by decide +kernel)) ggX6_clears_X2_passAir
theorem dX6_clears_0 : decode cX6_clears 0 = .ok (.aload_n 0, 1) := by decide +kernel
theorem dX6_clears_1 : decode cX6_clears 1 = .ok (.iload_n 1, 1) := by decide +kernel
theorem dX6_clears_2 : decode cX6_clears 2 = .ok (.invokevirtual 100, 3) := by decide +kernel
theorem dX6_clears_5 : decode cX6_clears 5 = .ok (.ifCond .ne 5, 3) := by decide +kernel
theorem dX6_clears_8 : decode cX6_clears 8 = .ok (.iconst (-1), 1) := by decide +kernel
theorem dX6_clears_9 : decode cX6_clears 9 = .ok (.ireturn, 1) := by decide +kernel
theorem dX6_clears_10 : decode cX6_clears 10 = .ok (.iload_n 2, 1) := by decide +kernel
theorem dX6_clears_11 : decode cX6_clears 11 = .ok (.invokestatic 130, 3) := by decide +kernel
theorem dX6_clears_14 : decode cX6_clears 14 = .ok (.ifCond .ne 6, 3) := by decide +kernel
theorem dX6_clears_17 : decode cX6_clears 17 = .ok (.bipush (-2), 2) := by decide +kernel
theorem dX6_clears_19 : decode cX6_clears 19 = .ok (.ireturn, 1) := by decide +kernel
theorem dX6_clears_20 : decode cX6_clears 20 = .ok (.aload_n 0, 1) := by decide +kernel
theorem dX6_clears_21 : decode cX6_clears 21 = .ok (.getfield 45, 3) := by decide +kernel
theorem dX6_clears_24 : decode cX6_clears 24 = .ok (.iconst 0, 1) := by decide +kernel
theorem dX6_clears_25 : decode cX6_clears 25 = .ok (.aaload, 1) := by decide +kernel
theorem dX6_clears_26 : decode cX6_clears 26 = .ok (.astore_n 3, 1) := by decide +kernel
theorem dX6_clears_27 : decode cX6_clears 27 = .ok (.aload_n 3, 1) := by decide +kernel
theorem dX6_clears_28 : decode cX6_clears 28 = .ok (.aload_n 0, 1) := by decide +kernel
theorem dX6_clears_29 : decode cX6_clears 29 = .ok (.getfield 27, 3) := by decide +kernel
theorem dX6_clears_32 : decode cX6_clears 32 = .ok (.invokevirtual 160, 3) := by decide +kernel
theorem dX6_clears_35 : decode cX6_clears 35 = .ok (.iconst 0, 1) := by decide +kernel
theorem dX6_clears_36 : decode cX6_clears 36 = .ok (.istore 4, 2) := by decide +kernel
theorem dX6_clears_38 : decode cX6_clears 38 = .ok (.iload 4, 2) := by decide +kernel
theorem dX6_clears_40 : decode cX6_clears 40 = .ok (.bipush 60, 2) := by decide +kernel
theorem dX6_clears_42 : decode cX6_clears 42 = .ok (.if_icmp .gt 38, 3) := by decide +kernel
theorem dX6_clears_45 : decode cX6_clears 45 = .ok (.aload_n 3, 1) := by decide +kernel
theorem dX6_clears_46 : decode cX6_clears 46 = .ok (.getfield 106, 3) := by decide +kernel
theorem dX6_clears_49 : decode cX6_clears 49 = .ok (.iload_n 1, 1) := by decide +kernel
theorem dX6_clears_50 : decode cX6_clears 50 = .ok (.iaload, 1) := by decide +kernel
theorem dX6_clears_51 : decode cX6_clears 51 = .ok (.iload_n 2, 1) := by decide +kernel
theorem dX6_clears_52 : decode cX6_clears 52 = .ok (.if_icmp .gt 6, 3) := by decide +kernel
theorem dX6_clears_55 : decode cX6_clears 55 = .ok (.iload 4, 2) := by decide +kernel
theorem dX6_clears_57 : decode cX6_clears 57 = .ok (.ireturn, 1) := by decide +kernel
theorem dX6_clears_58 : decode cX6_clears 58 = .ok (.aload_n 0, 1) := by decide +kernel
theorem dX6_clears_59 : decode cX6_clears 59 = .ok (.getfield 20, 3) := by decide +kernel
theorem dX6_clears_62 : decode cX6_clears 62 = .ok (.aload_n 3, 1) := by decide +kernel
theorem dX6_clears_63 : decode cX6_clears 63 = .ok (.aload_n 0, 1) := by decide +kernel
theorem dX6_clears_64 : decode cX6_clears 64 = .ok (.getfield 20, 3) := by decide +kernel
theorem dX6_clears_67 : decode cX6_clears 67 = .ok (.getfield 121, 3) := by decide +kernel
theorem dX6_clears_70 : decode cX6_clears 70 = .ok (.invokevirtual 183, 3) := by decide +kernel
theorem dX6_clears_73 : decode cX6_clears 73 = .ok (.pop, 1) := by decide +kernel
theorem dX6_clears_74 : decode cX6_clears 74 = .ok (.iinc 4 1, 3) := by decide +kernel
theorem dX6_clears_77 : decode cX6_clears 77 = .ok (.goto (-39), 3) := by decide +kernel
theorem dX6_clears_80 : decode cX6_clears 80 = .ok (.bipush (-9), 2) := by decide +kernel
theorem dX6_clears_82 : decode cX6_clears 82 = .ok (.ireturn, 1) := by decide +kernel
set_option maxRecDepth 20000 in
theorem ggX6_perches_X6_hasMine : GoodIn wsX6_perches wsX6_hasMine := goodIn_r _ [11, 1, 2, 38, 39, 40, 41, 42, 43, 44, 45, 46, 47, 48, 49, 50, 51, 52, 53, 54] (by decide +kernel) (by decide +kernel)
set_option maxRecDepth 20000 in
theorem gX6_perches_X6_hasMine : GoodIn wsX6_perches (wsV RX6 137 RX6 yX6_hasMine wsX6_hasMine) := goodIn_app (goodIn_of _ (by decide +kernel)) ggX6_perches_X6_hasMine
set_option maxRecDepth 20000 in
theorem ggX6_perches_X6_seatFrom : GoodIn wsX6_perches wsX6_seatFrom := goodIn_r _ [14, 2, 4, 15, 16, 17, 18, 19, 20, 21, 22, 23, 24, 25, 26, 27, 28, 29, 30, 31, 32, 33, 34, 35, 36, 10, 37, 12, 13, 49, 50, 51, 52, 53, 54, 55, 56, 57, 58, 59] (by decide +kernel) (by decide +kernel)
set_option maxRecDepth 20000 in
theorem gX6_perches_X6_seatFrom : GoodIn wsX6_perches (va_wsS RX6 189 yX6_seatFrom wsX6_seatFrom) := goodIn_app (goodIn_of _ (by decide +kernel)) ggX6_perches_X6_seatFrom
theorem dX6_perches_0 : decode cX6_perches 0 = .ok (.iload_n 1, 1) := by decide +kernel
theorem dX6_perches_1 : decode cX6_perches 1 = .ok (.iconst (-1), 1) := by decide +kernel
theorem dX6_perches_2 : decode cX6_perches 2 = .ok (.if_icmp .lt 9, 3) := by decide +kernel
theorem dX6_perches_5 : decode cX6_perches 5 = .ok (.iload_n 1, 1) := by decide +kernel
theorem dX6_perches_6 : decode cX6_perches 6 = .ok (.bipush 6, 2) := by decide +kernel
theorem dX6_perches_8 : decode cX6_perches 8 = .ok (.if_icmp .lt 6, 3) := by decide +kernel
theorem dX6_perches_11 : decode cX6_perches 11 = .ok (.bipush (-2), 2) := by decide +kernel
theorem dX6_perches_13 : decode cX6_perches 13 = .ok (.ireturn, 1) := by decide +kernel
theorem dX6_perches_14 : decode cX6_perches 14 = .ok (.aload_n 0, 1) := by decide +kernel
theorem dX6_perches_15 : decode cX6_perches 15 = .ok (.invokevirtual 137, 3) := by decide +kernel
theorem dX6_perches_18 : decode cX6_perches 18 = .ok (.ifCond .ne 6, 3) := by decide +kernel
theorem dX6_perches_21 : decode cX6_perches 21 = .ok (.bipush (-3), 2) := by decide +kernel
theorem dX6_perches_23 : decode cX6_perches 23 = .ok (.ireturn, 1) := by decide +kernel
theorem dX6_perches_24 : decode cX6_perches 24 = .ok (.iload_n 1, 1) := by decide +kernel
theorem dX6_perches_25 : decode cX6_perches 25 = .ok (.aload_n 0, 1) := by decide +kernel
theorem dX6_perches_26 : decode cX6_perches 26 = .ok (.getfield 20, 3) := by decide +kernel
theorem dX6_perches_29 : decode cX6_perches 29 = .ok (.getfield 97, 3) := by decide +kernel
theorem dX6_perches_32 : decode cX6_perches 32 = .ok (.if_icmp .lt 6, 3) := by decide +kernel
theorem dX6_perches_35 : decode cX6_perches 35 = .ok (.bipush (-9), 2) := by decide +kernel
theorem dX6_perches_37 : decode cX6_perches 37 = .ok (.ireturn, 1) := by decide +kernel
theorem dX6_perches_38 : decode cX6_perches 38 = .ok (.aload_n 0, 1) := by decide +kernel
theorem dX6_perches_39 : decode cX6_perches 39 = .ok (.getfield 56, 3) := by decide +kernel
theorem dX6_perches_42 : decode cX6_perches 42 = .ok (.iconst (-1), 1) := by decide +kernel
theorem dX6_perches_43 : decode cX6_perches 43 = .ok (.putfield 186, 3) := by decide +kernel
theorem dX6_perches_46 : decode cX6_perches 46 = .ok (.aload_n 0, 1) := by decide +kernel
theorem dX6_perches_47 : decode cX6_perches 47 = .ok (.getfield 20, 3) := by decide +kernel
theorem dX6_perches_50 : decode cX6_perches 50 = .ok (.aload_n 0, 1) := by decide +kernel
theorem dX6_perches_51 : decode cX6_perches 51 = .ok (.getfield 27, 3) := by decide +kernel
theorem dX6_perches_54 : decode cX6_perches 54 = .ok (.aload_n 0, 1) := by decide +kernel
theorem dX6_perches_55 : decode cX6_perches 55 = .ok (.getfield 56, 3) := by decide +kernel
theorem dX6_perches_58 : decode cX6_perches 58 = .ok (.iconst 0, 1) := by decide +kernel
theorem dX6_perches_59 : decode cX6_perches 59 = .ok (.iconst 0, 1) := by decide +kernel
theorem dX6_perches_60 : decode cX6_perches 60 = .ok (.iconst 0, 1) := by decide +kernel
theorem dX6_perches_61 : decode cX6_perches 61 = .ok (.invokestatic 189, 3) := by decide +kernel
theorem dX6_perches_64 : decode cX6_perches 64 = .ok (.iload_n 1, 1) := by decide +kernel
theorem dX6_perches_65 : decode cX6_perches 65 = .ok (.iconst (-1), 1) := by decide +kernel
theorem dX6_perches_66 : decode cX6_perches 66 = .ok (.if_icmp .ne 13, 3) := by decide +kernel
theorem dX6_perches_69 : decode cX6_perches 69 = .ok (.aload_n 0, 1) := by decide +kernel
theorem dX6_perches_70 : decode cX6_perches 70 = .ok (.getfield 56, 3) := by decide +kernel
theorem dX6_perches_73 : decode cX6_perches 73 = .ok (.getfield 186, 3) := by decide +kernel
theorem dX6_perches_76 : decode cX6_perches 76 = .ok (.goto 12, 3) := by decide +kernel
theorem dX6_perches_79 : decode cX6_perches 79 = .ok (.aload_n 0, 1) := by decide +kernel
theorem dX6_perches_80 : decode cX6_perches 80 = .ok (.getfield 56, 3) := by decide +kernel
end
section
theorem dX6_perches_83 : decode cX6_perches 83 = .ok (.getfield 193, 3) := by decide +kernel
theorem dX6_perches_86 : decode cX6_perches 86 = .ok (.iload_n 1, 1) := by decide +kernel
theorem dX6_perches_87 : decode cX6_perches 87 = .ok (.iaload, 1) := by decide +kernel
theorem dX6_perches_88 : decode cX6_perches 88 = .ok (.ireturn, 1) := by decide +kernel
set_option maxRecDepth 20000 in
theorem ggX6_found_X6_isSheet : GoodIn wsX6_found wsX6_isSheet := goodIn_r _ [10] (by decide +kernel) (by decide +kernel)
set_option maxRecDepth 20000 in
theorem gX6_found_X6_isSheet : GoodIn wsX6_found (va_wsS RX6 71 yX6_isSheet wsX6_isSheet) := goodIn_app (goodIn_of _ (by decide +kernel)) ggX6_found_X6_isSheet
set_option maxRecDepth 20000 in
theorem ggX6_found_X6_isLane : GoodIn wsX6_found wsX6_isLane := goodIn_r _ [13] (by decide +kernel) (by decide +kernel)
set_option maxRecDepth 20000 in
theorem gX6_found_X6_isLane : GoodIn wsX6_found (va_wsS RX6 75 yX6_isLane wsX6_isLane) := goodIn_app (goodIn_of _ (by decide +kernel)) ggX6_found_X6_isLane
set_option maxRecDepth 20000 in
theorem ggX6_found_X6_hasMine : GoodIn wsX6_found wsX6_hasMine := goodIn_r _ [17, 3, 4, 100, 101, 102, 103, 104, 105, 106, 107, 108, 109, 110, 111, 112, 113, 114, 115, 116] (by decide +kernel) (by decide +kernel)
set_option maxRecDepth 20000 in
theorem gX6_found_X6_hasMine : GoodIn wsX6_found (wsV RX6 137 RX6 yX6_hasMine wsX6_hasMine) := goodIn_app (goodIn_of _ (by decide +kernel)) ggX6_found_X6_hasMine
set_option maxRecDepth 20000 in
theorem ggX6_found_X5_faultOfCells : GoodIn wsX6_found wsX5_faultOfCells := goodIn_r _ [22, 23, 24, 25, 26, 27, 21, 28, 29, 117, 118, 119, 120] (by decide +kernel) (by decide +kernel)
set_option maxRecDepth 20000 in
theorem gX6_found_X5_faultOfCells : GoodIn wsX6_found (wsV RX6 78 RX5 yX5_faultOfCells wsX5_faultOfCells) := goodIn_app (goodIn_of _ (by decide +kernel)) ggX6_found_X5_faultOfCells
set_option maxRecDepth 20000 in
theorem ggX6_found_X6_faulted : GoodIn wsX6_found wsX6_faulted := goodIn_r _ [33, 1, 100, 101, 102, 103, 104, 105, 106, 107, 108, 109, 110] (by decide +kernel) (by decide +kernel)
set_option maxRecDepth 20000 in
theorem gX6_found_X6_faulted : GoodIn wsX6_found (wsV RX6 82 RX6 yX6_faulted wsX6_faulted) := goodIn_app (goodIn_of _ (by decide +kernel)) ggX6_found_X6_faulted
set_option maxRecDepth 20000 in
theorem ggX6_found_X6_airBehind : GoodIn wsX6_found wsX6_airBehind := goodIn_r _ [37, 38, 39, 3, 40, 41, 42, 43, 44, 45, 46, 47, 48, 49, 50, 51, 52, 53, 54, 55, 56, 57, 58, 59, 60, 61, 62, 63, 64, 65, 66, 67, 68, 69, 70, 71, 72, 73, 74, 75, 76, 77, 78, 79, 80, 81, 82, 83, 84, 85, 86, 87, 88, 89, 90, 91, 92, 93, 9, 94, 100, 101, 102, 103, 104, 105, 106, 107, 108, 109, 110, 111, 112, 113, 114, 115, 116, 121, 122] (by decide +kernel) (by decide +kernel)
set_option maxRecDepth 20000 in
theorem gX6_found_X6_airBehind : GoodIn wsX6_found (wsV RX6 198 RX6 yX6_airBehind wsX6_airBehind) := goodIn_app (goodIn_of _ (by decide +kernel)) ggX6_found_X6_airBehind
set_option maxRecDepth 20000 in
theorem ggX6_found_X6_isAsTold : GoodIn wsX6_found wsX6_isAsTold := goodIn_r _ [98, 3, 4, 99, 100, 101, 102, 103, 104, 105, 106, 107, 108, 109, 110, 111, 112, 113, 114, 115, 116, 121, 122] (by decide +kernel) (by decide +kernel)
set_option maxRecDepth 20000 in
theorem gX6_found_X6_isAsTold : GoodIn wsX6_found (wsV RX6 202 RX6 yX6_isAsTold wsX6_isAsTold) := goodIn_app (goodIn_of _ (by decide +kernel)) ggX6_found_X6_isAsTold
theorem dX6_found_0 : decode cX6_found 0 = .ok (.aload_n 0, 1) := by decide +kernel
theorem dX6_found_1 : decode cX6_found 1 = .ok (.iconst 0, 1) := by decide +kernel
theorem dX6_found_2 : decode cX6_found 2 = .ok (.putfield 67, 3) := by decide +kernel
theorem dX6_found_5 : decode cX6_found 5 = .ok (.iload_n 1, 1) := by decide +kernel
theorem dX6_found_6 : decode cX6_found 6 = .ok (.invokestatic 71, 3) := by decide +kernel
theorem dX6_found_9 : decode cX6_found 9 = .ok (.ifCond .ne 5, 3) := by decide +kernel
theorem dX6_found_12 : decode cX6_found 12 = .ok (.iconst (-1), 1) := by decide +kernel
theorem dX6_found_13 : decode cX6_found 13 = .ok (.ireturn, 1) := by decide +kernel
theorem dX6_found_14 : decode cX6_found 14 = .ok (.iload_n 2, 1) := by decide +kernel
theorem dX6_found_15 : decode cX6_found 15 = .ok (.invokestatic 75, 3) := by decide +kernel
theorem dX6_found_18 : decode cX6_found 18 = .ok (.ifCond .eq 16, 3) := by decide +kernel
theorem dX6_found_21 : decode cX6_found 21 = .ok (.iload 4, 2) := by decide +kernel
theorem dX6_found_23 : decode cX6_found 23 = .ok (.iconst (-1), 1) := by decide +kernel
theorem dX6_found_24 : decode cX6_found 24 = .ok (.if_icmp .lt 10, 3) := by decide +kernel
theorem dX6_found_27 : decode cX6_found 27 = .ok (.iload 4, 2) := by decide +kernel
theorem dX6_found_29 : decode cX6_found 29 = .ok (.bipush 24, 2) := by decide +kernel
theorem dX6_found_31 : decode cX6_found 31 = .ok (.if_icmp .lt 6, 3) := by decide +kernel
theorem dX6_found_34 : decode cX6_found 34 = .ok (.bipush (-2), 2) := by decide +kernel
theorem dX6_found_36 : decode cX6_found 36 = .ok (.ireturn, 1) := by decide +kernel
theorem dX6_found_37 : decode cX6_found 37 = .ok (.aload_n 0, 1) := by decide +kernel
theorem dX6_found_38 : decode cX6_found 38 = .ok (.invokevirtual 137, 3) := by decide +kernel
theorem dX6_found_41 : decode cX6_found 41 = .ok (.ifCond .ne 6, 3) := by decide +kernel
theorem dX6_found_44 : decode cX6_found 44 = .ok (.bipush (-3), 2) := by decide +kernel
theorem dX6_found_46 : decode cX6_found 46 = .ok (.ireturn, 1) := by decide +kernel
theorem dX6_found_47 : decode cX6_found 47 = .ok (.aload_n 0, 1) := by decide +kernel
theorem dX6_found_48 : decode cX6_found 48 = .ok (.getfield 13, 3) := by decide +kernel
theorem dX6_found_51 : decode cX6_found 51 = .ok (.iload_n 1, 1) := by decide +kernel
theorem dX6_found_52 : decode cX6_found 52 = .ok (.aaload, 1) := by decide +kernel
theorem dX6_found_53 : decode cX6_found 53 = .ok (.astore 5, 2) := by decide +kernel
theorem dX6_found_55 : decode cX6_found 55 = .ok (.aload 5, 2) := by decide +kernel
theorem dX6_found_57 : decode cX6_found 57 = .ok (.iload_n 2, 1) := by decide +kernel
theorem dX6_found_58 : decode cX6_found 58 = .ok (.iload_n 3, 1) := by decide +kernel
theorem dX6_found_59 : decode cX6_found 59 = .ok (.aload_n 0, 1) := by decide +kernel
theorem dX6_found_60 : decode cX6_found 60 = .ok (.getfield 20, 3) := by decide +kernel
theorem dX6_found_63 : decode cX6_found 63 = .ok (.getfield 97, 3) := by decide +kernel
theorem dX6_found_66 : decode cX6_found 66 = .ok (.invokevirtual 78, 3) := by decide +kernel
theorem dX6_found_69 : decode cX6_found 69 = .ok (.istore 6, 2) := by decide +kernel
theorem dX6_found_71 : decode cX6_found 71 = .ok (.iload 6, 2) := by decide +kernel
theorem dX6_found_73 : decode cX6_found 73 = .ok (.ifCond .eq 10, 3) := by decide +kernel
theorem dX6_found_76 : decode cX6_found 76 = .ok (.aload_n 0, 1) := by decide +kernel
theorem dX6_found_77 : decode cX6_found 77 = .ok (.iload 6, 2) := by decide +kernel
theorem dX6_found_79 : decode cX6_found 79 = .ok (.invokevirtual 82, 3) := by decide +kernel
theorem dX6_found_82 : decode cX6_found 82 = .ok (.ireturn, 1) := by decide +kernel
theorem dX6_found_83 : decode cX6_found 83 = .ok (.iconst 0, 1) := by decide +kernel
theorem dX6_found_84 : decode cX6_found 84 = .ok (.istore 7, 2) := by decide +kernel
theorem dX6_found_86 : decode cX6_found 86 = .ok (.iconst 0, 1) := by decide +kernel
theorem dX6_found_87 : decode cX6_found 87 = .ok (.istore 8, 2) := by decide +kernel
theorem dX6_found_89 : decode cX6_found 89 = .ok (.iload 8, 2) := by decide +kernel
theorem dX6_found_91 : decode cX6_found 91 = .ok (.aload_n 0, 1) := by decide +kernel
theorem dX6_found_92 : decode cX6_found 92 = .ok (.getfield 20, 3) := by decide +kernel
theorem dX6_found_95 : decode cX6_found 95 = .ok (.getfield 97, 3) := by decide +kernel
theorem dX6_found_98 : decode cX6_found 98 = .ok (.if_icmp .ge 70, 3) := by decide +kernel
theorem dX6_found_101 : decode cX6_found 101 = .ok (.iconst 0, 1) := by decide +kernel
theorem dX6_found_102 : decode cX6_found 102 = .ok (.istore 9, 2) := by decide +kernel
theorem dX6_found_104 : decode cX6_found 104 = .ok (.iload 9, 2) := by decide +kernel
theorem dX6_found_106 : decode cX6_found 106 = .ok (.aload_n 0, 1) := by decide +kernel
theorem dX6_found_107 : decode cX6_found 107 = .ok (.getfield 20, 3) := by decide +kernel
theorem dX6_found_110 : decode cX6_found 110 = .ok (.getfield 196, 3) := by decide +kernel
theorem dX6_found_113 : decode cX6_found 113 = .ok (.if_icmp .ge 49, 3) := by decide +kernel
theorem dX6_found_116 : decode cX6_found 116 = .ok (.aload_n 0, 1) := by decide +kernel
theorem dX6_found_117 : decode cX6_found 117 = .ok (.aload 5, 2) := by decide +kernel
theorem dX6_found_119 : decode cX6_found 119 = .ok (.getfield 86, 3) := by decide +kernel
theorem dX6_found_122 : decode cX6_found 122 = .ok (.iload_n 3, 1) := by decide +kernel
theorem dX6_found_123 : decode cX6_found 123 = .ok (.aload_n 0, 1) := by decide +kernel
theorem dX6_found_124 : decode cX6_found 124 = .ok (.iload 8, 2) := by decide +kernel
theorem dX6_found_126 : decode cX6_found 126 = .ok (.iload 9, 2) := by decide +kernel
theorem dX6_found_128 : decode cX6_found 128 = .ok (.invokevirtual 198, 3) := by decide +kernel
theorem dX6_found_131 : decode cX6_found 131 = .ok (.invokevirtual 202, 3) := by decide +kernel
theorem dX6_found_134 : decode cX6_found 134 = .ok (.ifCond .eq 22, 3) := by decide +kernel
theorem dX6_found_137 : decode cX6_found 137 = .ok (.iload 7, 2) := by decide +kernel
theorem dX6_found_139 : decode cX6_found 139 = .ok (.iload 4, 2) := by decide +kernel
theorem dX6_found_141 : decode cX6_found 141 = .ok (.if_icmp .ne 12, 3) := by decide +kernel
theorem dX6_found_144 : decode cX6_found 144 = .ok (.bipush 10, 2) := by decide +kernel
theorem dX6_found_146 : decode cX6_found 146 = .ok (.iload 8, 2) := by decide +kernel
theorem dX6_found_148 : decode cX6_found 148 = .ok (.imul, 1) := by decide +kernel
theorem dX6_found_149 : decode cX6_found 149 = .ok (.iload 9, 2) := by decide +kernel
theorem dX6_found_151 : decode cX6_found 151 = .ok (.iadd, 1) := by decide +kernel
theorem dX6_found_152 : decode cX6_found 152 = .ok (.ireturn, 1) := by decide +kernel
theorem dX6_found_153 : decode cX6_found 153 = .ok (.iinc 7 1, 3) := by decide +kernel
theorem dX6_found_156 : decode cX6_found 156 = .ok (.iinc 9 1, 3) := by decide +kernel
theorem dX6_found_159 : decode cX6_found 159 = .ok (.goto (-55), 3) := by decide +kernel
theorem dX6_found_162 : decode cX6_found 162 = .ok (.iinc 8 1, 3) := by decide +kernel
theorem dX6_found_165 : decode cX6_found 165 = .ok (.goto (-76), 3) := by decide +kernel
theorem dX6_found_168 : decode cX6_found 168 = .ok (.iload 4, 2) := by decide +kernel
theorem dX6_found_170 : decode cX6_found 170 = .ok (.iconst (-1), 1) := by decide +kernel
theorem dX6_found_171 : decode cX6_found 171 = .ok (.if_icmp .ne 8, 3) := by decide +kernel
theorem dX6_found_174 : decode cX6_found 174 = .ok (.iload 7, 2) := by decide +kernel
theorem dX6_found_176 : decode cX6_found 176 = .ok (.goto 5, 3) := by decide +kernel
theorem dX6_found_179 : decode cX6_found 179 = .ok (.bipush (-9), 2) := by decide +kernel
theorem dX6_found_181 : decode cX6_found 181 = .ok (.ireturn, 1) := by decide +kernel
set_option maxRecDepth 20000 in
theorem ggX6_reading_X6_isGallery : GoodIn wsX6_reading wsX6_isGallery := goodIn_r _ [7, 8, 9, 22, 23, 24, 25, 26, 27, 28, 29, 30, 31, 32, 37, 38, 39, 40, 41, 42] (by decide +kernel) (by decide +kernel)
set_option maxRecDepth 20000 in
theorem gX6_reading_X6_isGallery : GoodIn wsX6_reading (wsV RX6 100 RX6 yX6_isGallery wsX6_isGallery) := goodIn_app (goodIn_of _ (by decide +kernel)) ggX6_reading_X6_isGallery
set_option maxRecDepth 20000 in
theorem ggX6_reading_X6_isFoul : GoodIn wsX6_reading wsX6_isFoul := goodIn_r _ [12] (by decide +kernel) (by decide +kernel)
set_option maxRecDepth 20000 in
theorem gX6_reading_X6_isFoul : GoodIn wsX6_reading (va_wsS RX6 130 yX6_isFoul wsX6_isFoul) := goodIn_app (goodIn_of _ (by decide +kernel)) ggX6_reading_X6_isFoul
set_option maxRecDepth 20000 in
theorem ggX6_reading_X3_write : GoodIn wsX6_reading wsX3_write := goodIn_r _ [17, 18, 19, 20, 21, 33, 34, 35, 36] (by decide +kernel) (by decide +kernel)
set_option maxRecDepth 20000 in
theorem gX6_reading_X3_write : GoodIn wsX6_reading (wsV RX6 207 RX3 yX3_write wsX3_write) := goodIn_app (goodIn_of _ (by decide +kernel)) ggX6_reading_X3_write
theorem dX6_reading_0 : decode cX6_reading 0 = .ok (.aload_n 0, 1) := by decide +kernel
theorem dX6_reading_1 : decode cX6_reading 1 = .ok (.iload_n 1, 1) := by decide +kernel
theorem dX6_reading_2 : decode cX6_reading 2 = .ok (.invokevirtual 100, 3) := by decide +kernel
theorem dX6_reading_5 : decode cX6_reading 5 = .ok (.ifCond .ne 5, 3) := by decide +kernel
theorem dX6_reading_8 : decode cX6_reading 8 = .ok (.iconst (-1), 1) := by decide +kernel
theorem dX6_reading_9 : decode cX6_reading 9 = .ok (.ireturn, 1) := by decide +kernel
theorem dX6_reading_10 : decode cX6_reading 10 = .ok (.iload_n 2, 1) := by decide +kernel
theorem dX6_reading_11 : decode cX6_reading 11 = .ok (.invokestatic 130, 3) := by decide +kernel
theorem dX6_reading_14 : decode cX6_reading 14 = .ok (.ifCond .eq 12, 3) := by decide +kernel
theorem dX6_reading_17 : decode cX6_reading 17 = .ok (.iload_n 3, 1) := by decide +kernel
theorem dX6_reading_18 : decode cX6_reading 18 = .ok (.ifCond .eq 11, 3) := by decide +kernel
theorem dX6_reading_21 : decode cX6_reading 21 = .ok (.iload_n 3, 1) := by decide +kernel
theorem dX6_reading_22 : decode cX6_reading 22 = .ok (.iconst 1, 1) := by decide +kernel
theorem dX6_reading_23 : decode cX6_reading 23 = .ok (.if_icmp .eq 6, 3) := by decide +kernel
theorem dX6_reading_26 : decode cX6_reading 26 = .ok (.bipush (-2), 2) := by decide +kernel
theorem dX6_reading_28 : decode cX6_reading 28 = .ok (.ireturn, 1) := by decide +kernel
theorem dX6_reading_29 : decode cX6_reading 29 = .ok (.aload_n 0, 1) := by decide +kernel
theorem dX6_reading_30 : decode cX6_reading 30 = .ok (.getfield 34, 3) := by decide +kernel
theorem dX6_reading_33 : decode cX6_reading 33 = .ok (.getfield 206, 3) := by decide +kernel
theorem dX6_reading_36 : decode cX6_reading 36 = .ok (.bipush 8, 2) := by decide +kernel
theorem dX6_reading_38 : decode cX6_reading 38 = .ok (.if_icmp .lt 6, 3) := by decide +kernel
theorem dX6_reading_41 : decode cX6_reading 41 = .ok (.bipush (-4), 2) := by decide +kernel
theorem dX6_reading_43 : decode cX6_reading 43 = .ok (.ireturn, 1) := by decide +kernel
theorem dX6_reading_44 : decode cX6_reading 44 = .ok (.aload_n 0, 1) := by decide +kernel
theorem dX6_reading_45 : decode cX6_reading 45 = .ok (.getfield 34, 3) := by decide +kernel
theorem dX6_reading_48 : decode cX6_reading 48 = .ok (.iload_n 1, 1) := by decide +kernel
theorem dX6_reading_49 : decode cX6_reading 49 = .ok (.iload_n 2, 1) := by decide +kernel
theorem dX6_reading_50 : decode cX6_reading 50 = .ok (.iload_n 3, 1) := by decide +kernel
theorem dX6_reading_51 : decode cX6_reading 51 = .ok (.invokevirtual 207, 3) := by decide +kernel
theorem dX6_reading_54 : decode cX6_reading 54 = .ok (.ireturn, 1) := by decide +kernel
theorem dX6_back_0 : decode cX6_back 0 = .ok (.iload_n 1, 1) := by decide +kernel
theorem dX6_back_1 : decode cX6_back 1 = .ok (.ifCond .lt 14, 3) := by decide +kernel
theorem dX6_back_4 : decode cX6_back 4 = .ok (.iload_n 1, 1) := by decide +kernel
theorem dX6_back_5 : decode cX6_back 5 = .ok (.aload_n 0, 1) := by decide +kernel
theorem dX6_back_6 : decode cX6_back 6 = .ok (.getfield 34, 3) := by decide +kernel
theorem dX6_back_9 : decode cX6_back 9 = .ok (.getfield 206, 3) := by decide +kernel
theorem dX6_back_12 : decode cX6_back 12 = .ok (.if_icmp .le 6, 3) := by decide +kernel
theorem dX6_back_15 : decode cX6_back 15 = .ok (.bipush (-2), 2) := by decide +kernel
theorem dX6_back_17 : decode cX6_back 17 = .ok (.ireturn, 1) := by decide +kernel
theorem dX6_back_18 : decode cX6_back 18 = .ok (.aload_n 0, 1) := by decide +kernel
theorem dX6_back_19 : decode cX6_back 19 = .ok (.getfield 34, 3) := by decide +kernel
theorem dX6_back_22 : decode cX6_back 22 = .ok (.dup, 1) := by decide +kernel
theorem dX6_back_23 : decode cX6_back 23 = .ok (.getfield 206, 3) := by decide +kernel
theorem dX6_back_26 : decode cX6_back 26 = .ok (.iload_n 1, 1) := by decide +kernel
theorem dX6_back_27 : decode cX6_back 27 = .ok (.isub, 1) := by decide +kernel
theorem dX6_back_28 : decode cX6_back 28 = .ok (.putfield 206, 3) := by decide +kernel
theorem dX6_back_31 : decode cX6_back 31 = .ok (.aload_n 0, 1) := by decide +kernel
theorem dX6_back_32 : decode cX6_back 32 = .ok (.getfield 34, 3) := by decide +kernel
theorem dX6_back_35 : decode cX6_back 35 = .ok (.getfield 206, 3) := by decide +kernel
theorem dX6_back_38 : decode cX6_back 38 = .ok (.ireturn, 1) := by decide +kernel
set_option maxRecDepth 20000 in
theorem ggX6_strengths_X6_isGallery : GoodIn wsX6_strengths wsX6_isGallery := goodIn_r _ [8, 2, 9, 29, 30, 31, 32, 33, 34, 35, 36, 37, 38, 39, 40, 41, 42, 43, 44, 45] (by decide +kernel) (by decide +kernel)
set_option maxRecDepth 20000 in
theorem gX6_strengths_X6_isGallery : GoodIn wsX6_strengths (wsV RX6 100 RX6 yX6_isGallery wsX6_isGallery) := goodIn_app (goodIn_of _ (by decide +kernel)) ggX6_strengths_X6_isGallery
set_option maxRecDepth 20000 in
theorem ggX6_strengths_X6_bearing : GoodIn wsX6_strengths wsX6_bearing := goodIn_r _ [12] (by decide +kernel) (by decide +kernel)
set_option maxRecDepth 20000 in
theorem gX6_strengths_X6_bearing : GoodIn wsX6_strengths (va_wsS RX6 210 yX6_bearing wsX6_bearing) := goodIn_app (goodIn_of _ (by decide +kernel)) ggX6_strengths_X6_bearing
set_option maxRecDepth 20000 in
theorem ggX6_strengths_X3_areSo : GoodIn wsX6_strengths wsX3_areSo := goodIn_r _ [17, 18, 19, 20, 21, 22, 23, 24, 25, 26, 27, 28, 11, 7, 12, 46, 47, 48, 49, 40, 41, 42, 43, 44, 45] (by decide +kernel) (by decide +kernel)
set_option maxRecDepth 20000 in
theorem gX6_strengths_X3_areSo : GoodIn wsX6_strengths (wsV RX6 214 RX3 yX3_areSo wsX3_areSo) := goodIn_app (goodIn_of _ (by decide +kernel)) ggX6_strengths_X3_areSo
theorem dX6_strengths_0 : decode cX6_strengths 0 = .ok (.aload_n 0, 1) := by decide +kernel
theorem dX6_strengths_1 : decode cX6_strengths 1 = .ok (.iload_n 1, 1) := by decide +kernel
theorem dX6_strengths_2 : decode cX6_strengths 2 = .ok (.invokevirtual 100, 3) := by decide +kernel
theorem dX6_strengths_5 : decode cX6_strengths 5 = .ok (.ifCond .ne 5, 3) := by decide +kernel
theorem dX6_strengths_8 : decode cX6_strengths 8 = .ok (.iconst (-1), 1) := by decide +kernel
theorem dX6_strengths_9 : decode cX6_strengths 9 = .ok (.ireturn, 1) := by decide +kernel
theorem dX6_strengths_10 : decode cX6_strengths 10 = .ok (.iconst 0, 1) := by decide +kernel
theorem dX6_strengths_11 : decode cX6_strengths 11 = .ok (.istore_n 2, 1) := by decide +kernel
theorem dX6_strengths_12 : decode cX6_strengths 12 = .ok (.iconst 1, 1) := by decide +kernel
theorem dX6_strengths_13 : decode cX6_strengths 13 = .ok (.istore_n 3, 1) := by decide +kernel
theorem dX6_strengths_14 : decode cX6_strengths 14 = .ok (.iload_n 3, 1) := by decide +kernel
theorem dX6_strengths_15 : decode cX6_strengths 15 = .ok (.bipush 9, 2) := by decide +kernel
theorem dX6_strengths_17 : decode cX6_strengths 17 = .ok (.if_icmp .gt 43, 3) := by decide +kernel
theorem dX6_strengths_20 : decode cX6_strengths 20 = .ok (.aload_n 0, 1) := by decide +kernel
theorem dX6_strengths_21 : decode cX6_strengths 21 = .ok (.getfield 34, 3) := by decide +kernel
theorem dX6_strengths_24 : decode cX6_strengths 24 = .ok (.aload_n 0, 1) := by decide +kernel
theorem dX6_strengths_25 : decode cX6_strengths 25 = .ok (.getfield 20, 3) := by decide +kernel
theorem dX6_strengths_28 : decode cX6_strengths 28 = .ok (.iload_n 1, 1) := by decide +kernel
theorem dX6_strengths_29 : decode cX6_strengths 29 = .ok (.aload_n 0, 1) := by decide +kernel
theorem dX6_strengths_30 : decode cX6_strengths 30 = .ok (.getfield 20, 3) := by decide +kernel
theorem dX6_strengths_33 : decode cX6_strengths 33 = .ok (.getfield 103, 3) := by decide +kernel
theorem dX6_strengths_36 : decode cX6_strengths 36 = .ok (.iload_n 1, 1) := by decide +kernel
theorem dX6_strengths_37 : decode cX6_strengths 37 = .ok (.iaload, 1) := by decide +kernel
theorem dX6_strengths_38 : decode cX6_strengths 38 = .ok (.iload_n 3, 1) := by decide +kernel
theorem dX6_strengths_39 : decode cX6_strengths 39 = .ok (.invokestatic 210, 3) := by decide +kernel
theorem dX6_strengths_42 : decode cX6_strengths 42 = .ok (.invokevirtual 214, 3) := by decide +kernel
theorem dX6_strengths_45 : decode cX6_strengths 45 = .ok (.ifCond .eq 9, 3) := by decide +kernel
theorem dX6_strengths_48 : decode cX6_strengths 48 = .ok (.iload_n 2, 1) := by decide +kernel
theorem dX6_strengths_49 : decode cX6_strengths 49 = .ok (.iconst 1, 1) := by decide +kernel
theorem dX6_strengths_50 : decode cX6_strengths 50 = .ok (.iload_n 3, 1) := by decide +kernel
theorem dX6_strengths_51 : decode cX6_strengths 51 = .ok (.ishl, 1) := by decide +kernel
theorem dX6_strengths_52 : decode cX6_strengths 52 = .ok (.ior, 1) := by decide +kernel
theorem dX6_strengths_53 : decode cX6_strengths 53 = .ok (.istore_n 2, 1) := by decide +kernel
theorem dX6_strengths_54 : decode cX6_strengths 54 = .ok (.iinc 3 1, 3) := by decide +kernel
theorem dX6_strengths_57 : decode cX6_strengths 57 = .ok (.goto (-43), 3) := by decide +kernel
theorem dX6_strengths_60 : decode cX6_strengths 60 = .ok (.iload_n 2, 1) := by decide +kernel
theorem dX6_strengths_61 : decode cX6_strengths 61 = .ok (.ireturn, 1) := by decide +kernel
set_option maxRecDepth 20000 in
theorem ggX6_kinds_X6_isGallery : GoodIn wsX6_kinds wsX6_isGallery := goodIn_r _ [8, 2, 9, 29, 30, 31, 32, 33, 34, 35, 36, 37, 38, 39, 40, 41, 42, 43, 44, 45] (by decide +kernel) (by decide +kernel)
set_option maxRecDepth 20000 in
theorem gX6_kinds_X6_isGallery : GoodIn wsX6_kinds (wsV RX6 100 RX6 yX6_isGallery wsX6_isGallery) := goodIn_app (goodIn_of _ (by decide +kernel)) ggX6_kinds_X6_isGallery
set_option maxRecDepth 20000 in
theorem ggX6_kinds_X6_bearing : GoodIn wsX6_kinds wsX6_bearing := goodIn_r _ [12] (by decide +kernel) (by decide +kernel)
set_option maxRecDepth 20000 in
theorem gX6_kinds_X6_bearing : GoodIn wsX6_kinds (va_wsS RX6 210 yX6_bearing wsX6_bearing) := goodIn_app (goodIn_of _ (by decide +kernel)) ggX6_kinds_X6_bearing
set_option maxRecDepth 20000 in
theorem ggX6_kinds_X3_areSo : GoodIn wsX6_kinds wsX3_areSo := goodIn_r _ [17, 18, 19, 20, 21, 22, 23, 24, 25, 26, 27, 28, 11, 7, 12, 46, 47, 48, 49, 40, 41, 42, 43, 44, 45] (by decide +kernel) (by decide +kernel)
set_option maxRecDepth 20000 in
theorem gX6_kinds_X3_areSo : GoodIn wsX6_kinds (wsV RX6 214 RX3 yX3_areSo wsX3_areSo) := goodIn_app (goodIn_of _ (by decide +kernel)) ggX6_kinds_X3_areSo
theorem dX6_kinds_0 : decode cX6_kinds 0 = .ok (.aload_n 0, 1) := by decide +kernel
theorem dX6_kinds_1 : decode cX6_kinds 1 = .ok (.iload_n 1, 1) := by decide +kernel
theorem dX6_kinds_2 : decode cX6_kinds 2 = .ok (.invokevirtual 100, 3) := by decide +kernel
theorem dX6_kinds_5 : decode cX6_kinds 5 = .ok (.ifCond .ne 5, 3) := by decide +kernel
theorem dX6_kinds_8 : decode cX6_kinds 8 = .ok (.iconst (-1), 1) := by decide +kernel
theorem dX6_kinds_9 : decode cX6_kinds 9 = .ok (.ireturn, 1) := by decide +kernel
theorem dX6_kinds_10 : decode cX6_kinds 10 = .ok (.iconst 0, 1) := by decide +kernel
theorem dX6_kinds_11 : decode cX6_kinds 11 = .ok (.istore_n 2, 1) := by decide +kernel
theorem dX6_kinds_12 : decode cX6_kinds 12 = .ok (.iconst 0, 1) := by decide +kernel
theorem dX6_kinds_13 : decode cX6_kinds 13 = .ok (.istore_n 3, 1) := by decide +kernel
theorem dX6_kinds_14 : decode cX6_kinds 14 = .ok (.iload_n 3, 1) := by decide +kernel
theorem dX6_kinds_15 : decode cX6_kinds 15 = .ok (.iconst 3, 1) := by decide +kernel
theorem dX6_kinds_16 : decode cX6_kinds 16 = .ok (.if_icmp .ge 43, 3) := by decide +kernel
theorem dX6_kinds_19 : decode cX6_kinds 19 = .ok (.aload_n 0, 1) := by decide +kernel
theorem dX6_kinds_20 : decode cX6_kinds 20 = .ok (.getfield 34, 3) := by decide +kernel
theorem dX6_kinds_23 : decode cX6_kinds 23 = .ok (.aload_n 0, 1) := by decide +kernel
theorem dX6_kinds_24 : decode cX6_kinds 24 = .ok (.getfield 20, 3) := by decide +kernel
theorem dX6_kinds_27 : decode cX6_kinds 27 = .ok (.iload_n 1, 1) := by decide +kernel
theorem dX6_kinds_28 : decode cX6_kinds 28 = .ok (.iload_n 3, 1) := by decide +kernel
theorem dX6_kinds_29 : decode cX6_kinds 29 = .ok (.aload_n 0, 1) := by decide +kernel
theorem dX6_kinds_30 : decode cX6_kinds 30 = .ok (.getfield 20, 3) := by decide +kernel
theorem dX6_kinds_33 : decode cX6_kinds 33 = .ok (.getfield 109, 3) := by decide +kernel
theorem dX6_kinds_36 : decode cX6_kinds 36 = .ok (.iload_n 1, 1) := by decide +kernel
theorem dX6_kinds_37 : decode cX6_kinds 37 = .ok (.iaload, 1) := by decide +kernel
theorem dX6_kinds_38 : decode cX6_kinds 38 = .ok (.invokestatic 210, 3) := by decide +kernel
theorem dX6_kinds_41 : decode cX6_kinds 41 = .ok (.invokevirtual 214, 3) := by decide +kernel
theorem dX6_kinds_44 : decode cX6_kinds 44 = .ok (.ifCond .eq 9, 3) := by decide +kernel
theorem dX6_kinds_47 : decode cX6_kinds 47 = .ok (.iload_n 2, 1) := by decide +kernel
theorem dX6_kinds_48 : decode cX6_kinds 48 = .ok (.iconst 1, 1) := by decide +kernel
theorem dX6_kinds_49 : decode cX6_kinds 49 = .ok (.iload_n 3, 1) := by decide +kernel
theorem dX6_kinds_50 : decode cX6_kinds 50 = .ok (.ishl, 1) := by decide +kernel
theorem dX6_kinds_51 : decode cX6_kinds 51 = .ok (.ior, 1) := by decide +kernel
theorem dX6_kinds_52 : decode cX6_kinds 52 = .ok (.istore_n 2, 1) := by decide +kernel
theorem dX6_kinds_53 : decode cX6_kinds 53 = .ok (.iinc 3 1, 3) := by decide +kernel
theorem dX6_kinds_56 : decode cX6_kinds 56 = .ok (.goto (-42), 3) := by decide +kernel
theorem dX6_kinds_59 : decode cX6_kinds 59 = .ok (.iload_n 2, 1) := by decide +kernel
theorem dX6_kinds_60 : decode cX6_kinds 60 = .ok (.ireturn, 1) := by decide +kernel
set_option maxRecDepth 20000 in
theorem ggX6_odds_X6_isGallery : GoodIn wsX6_odds wsX6_isGallery := goodIn_r _ [9, 2, 3, 75, 76, 77, 78, 79, 80, 81, 82, 83, 84, 85, 86, 87, 88, 89, 90, 91] (by decide +kernel) (by decide +kernel)
set_option maxRecDepth 20000 in
theorem gX6_odds_X6_isGallery : GoodIn wsX6_odds (wsV RX6 100 RX6 yX6_isGallery wsX6_isGallery) := goodIn_app (goodIn_of _ (by decide +kernel)) ggX6_odds_X6_isGallery
set_option maxRecDepth 20000 in
theorem ggX6_odds_X6_airBehind : GoodIn wsX6_odds wsX6_airBehind := goodIn_r _ [13, 14, 15, 2, 16, 17, 18, 19, 20, 21, 22, 23, 24, 25, 26, 27, 28, 29, 30, 31, 32, 33, 34, 35, 36, 37, 38, 39, 40, 41, 42, 43, 44, 45, 46, 47, 48, 49, 50, 51, 52, 53, 54, 55, 56, 57, 58, 59, 60, 61, 62, 63, 64, 65, 66, 67, 68, 69, 8, 70, 75, 76, 77, 78, 79, 80, 81, 82, 83, 84, 85, 86, 87, 88, 89, 90, 91, 92, 93] (by decide +kernel) (by decide +kernel)
set_option maxRecDepth 20000 in
theorem gX6_odds_X6_airBehind : GoodIn wsX6_odds (wsV RX6 198 RX6 yX6_airBehind wsX6_airBehind) := goodIn_app (goodIn_of _ (by decide +kernel)) ggX6_odds_X6_airBehind
set_option maxRecDepth 20000 in
theorem ggX6_odds_X0_isDown : GoodIn wsX6_odds wsX0_isDown := goodIn_r _ [62, 27, 92, 93] (by decide +kernel) (by decide +kernel)
set_option maxRecDepth 20000 in
theorem gX6_odds_X0_isDown : GoodIn wsX6_odds (wsV RX6 145 RX0 yX0_isDown wsX0_isDown) := goodIn_app (goodIn_of _ (by decide +kernel)) ggX6_odds_X0_isDown
set_option maxRecDepth 20000 in
theorem ggX6_odds_X6_commonDivisor : GoodIn wsX6_odds wsX6_commonDivisor := goodIn_r _ [74] (by decide +kernel) (by decide +kernel)
set_option maxRecDepth 20000 in
theorem gX6_odds_X6_commonDivisor : GoodIn wsX6_odds (va_wsS RX6 220 yX6_commonDivisor wsX6_commonDivisor) := goodIn_app (goodIn_of _ (by decide +kernel)) ggX6_odds_X6_commonDivisor
theorem dX6_odds_0 : decode cX6_odds 0 = .ok (.aload_n 0, 1) := by decide +kernel
theorem dX6_odds_1 : decode cX6_odds 1 = .ok (.iload_n 1, 1) := by decide +kernel
theorem dX6_odds_2 : decode cX6_odds 2 = .ok (.invokevirtual 100, 3) := by decide +kernel
theorem dX6_odds_5 : decode cX6_odds 5 = .ok (.ifCond .eq 12, 3) := by decide +kernel
theorem dX6_odds_8 : decode cX6_odds 8 = .ok (.iload_n 2, 1) := by decide +kernel
theorem dX6_odds_9 : decode cX6_odds 9 = .ok (.ifCond .lt 8, 3) := by decide +kernel
theorem dX6_odds_12 : decode cX6_odds 12 = .ok (.iload_n 2, 1) := by decide +kernel
theorem dX6_odds_13 : decode cX6_odds 13 = .ok (.iconst 1, 1) := by decide +kernel
theorem dX6_odds_14 : decode cX6_odds 14 = .ok (.if_icmp .le 7, 3) := by decide +kernel
theorem dX6_odds_17 : decode cX6_odds 17 = .ok (.ldc2_w 218, 3) := by decide +kernel
theorem dX6_odds_20 : decode cX6_odds 20 = .ok (.lreturn, 1) := by decide +kernel
theorem dX6_odds_21 : decode cX6_odds 21 = .ok (.iconst 0, 1) := by decide +kernel
theorem dX6_odds_22 : decode cX6_odds 22 = .ok (.istore_n 3, 1) := by decide +kernel
theorem dX6_odds_23 : decode cX6_odds 23 = .ok (.iconst 0, 1) := by decide +kernel
theorem dX6_odds_24 : decode cX6_odds 24 = .ok (.istore 4, 2) := by decide +kernel
theorem dX6_odds_26 : decode cX6_odds 26 = .ok (.iload 4, 2) := by decide +kernel
theorem dX6_odds_28 : decode cX6_odds 28 = .ok (.aload_n 0, 1) := by decide +kernel
theorem dX6_odds_29 : decode cX6_odds 29 = .ok (.getfield 20, 3) := by decide +kernel
theorem dX6_odds_32 : decode cX6_odds 32 = .ok (.getfield 97, 3) := by decide +kernel
theorem dX6_odds_35 : decode cX6_odds 35 = .ok (.if_icmp .ge 48, 3) := by decide +kernel
theorem dX6_odds_38 : decode cX6_odds 38 = .ok (.iconst 0, 1) := by decide +kernel
theorem dX6_odds_39 : decode cX6_odds 39 = .ok (.istore 5, 2) := by decide +kernel
theorem dX6_odds_41 : decode cX6_odds 41 = .ok (.iload 5, 2) := by decide +kernel
theorem dX6_odds_43 : decode cX6_odds 43 = .ok (.aload_n 0, 1) := by decide +kernel
theorem dX6_odds_44 : decode cX6_odds 44 = .ok (.getfield 20, 3) := by decide +kernel
theorem dX6_odds_47 : decode cX6_odds 47 = .ok (.getfield 196, 3) := by decide +kernel
theorem dX6_odds_50 : decode cX6_odds 50 = .ok (.if_icmp .ge 27, 3) := by decide +kernel
theorem dX6_odds_53 : decode cX6_odds 53 = .ok (.aload_n 0, 1) := by decide +kernel
theorem dX6_odds_54 : decode cX6_odds 54 = .ok (.iload 4, 2) := by decide +kernel
theorem dX6_odds_56 : decode cX6_odds 56 = .ok (.iload 5, 2) := by decide +kernel
theorem dX6_odds_58 : decode cX6_odds 58 = .ok (.invokevirtual 198, 3) := by decide +kernel
theorem dX6_odds_61 : decode cX6_odds 61 = .ok (.iload_n 1, 1) := by decide +kernel
theorem dX6_odds_62 : decode cX6_odds 62 = .ok (.invokevirtual 145, 3) := by decide +kernel
theorem dX6_odds_65 : decode cX6_odds 65 = .ok (.ifCond .eq 6, 3) := by decide +kernel
theorem dX6_odds_68 : decode cX6_odds 68 = .ok (.iinc 3 1, 3) := by decide +kernel
theorem dX6_odds_71 : decode cX6_odds 71 = .ok (.iinc 5 1, 3) := by decide +kernel
theorem dX6_odds_74 : decode cX6_odds 74 = .ok (.goto (-33), 3) := by decide +kernel
theorem dX6_odds_77 : decode cX6_odds 77 = .ok (.iinc 4 1, 3) := by decide +kernel
theorem dX6_odds_80 : decode cX6_odds 80 = .ok (.goto (-54), 3) := by decide +kernel
theorem dX6_odds_83 : decode cX6_odds 83 = .ok (.aload_n 0, 1) := by decide +kernel
theorem dX6_odds_84 : decode cX6_odds 84 = .ok (.getfield 20, 3) := by decide +kernel
theorem dX6_odds_87 : decode cX6_odds 87 = .ok (.getfield 97, 3) := by decide +kernel
theorem dX6_odds_90 : decode cX6_odds 90 = .ok (.aload_n 0, 1) := by decide +kernel
theorem dX6_odds_91 : decode cX6_odds 91 = .ok (.getfield 20, 3) := by decide +kernel
theorem dX6_odds_94 : decode cX6_odds 94 = .ok (.getfield 196, 3) := by decide +kernel
theorem dX6_odds_97 : decode cX6_odds 97 = .ok (.imul, 1) := by decide +kernel
theorem dX6_odds_98 : decode cX6_odds 98 = .ok (.istore 4, 2) := by decide +kernel
theorem dX6_odds_100 : decode cX6_odds 100 = .ok (.iload_n 3, 1) := by decide +kernel
theorem dX6_odds_101 : decode cX6_odds 101 = .ok (.iload 4, 2) := by decide +kernel
theorem dX6_odds_103 : decode cX6_odds 103 = .ok (.invokestatic 220, 3) := by decide +kernel
theorem dX6_odds_106 : decode cX6_odds 106 = .ok (.istore 5, 2) := by decide +kernel
theorem dX6_odds_108 : decode cX6_odds 108 = .ok (.iload_n 2, 1) := by decide +kernel
theorem dX6_odds_109 : decode cX6_odds 109 = .ok (.ifCond .ne 11, 3) := by decide +kernel
theorem dX6_odds_112 : decode cX6_odds 112 = .ok (.iload_n 3, 1) := by decide +kernel
theorem dX6_odds_113 : decode cX6_odds 113 = .ok (.iload 5, 2) := by decide +kernel
theorem dX6_odds_115 : decode cX6_odds 115 = .ok (.idiv, 1) := by decide +kernel
theorem dX6_odds_116 : decode cX6_odds 116 = .ok (.i2l, 1) := by decide +kernel
theorem dX6_odds_117 : decode cX6_odds 117 = .ok (.goto 9, 3) := by decide +kernel
theorem dX6_odds_120 : decode cX6_odds 120 = .ok (.iload 4, 2) := by decide +kernel
theorem dX6_odds_122 : decode cX6_odds 122 = .ok (.iload 5, 2) := by decide +kernel
theorem dX6_odds_124 : decode cX6_odds 124 = .ok (.idiv, 1) := by decide +kernel
theorem dX6_odds_125 : decode cX6_odds 125 = .ok (.i2l, 1) := by decide +kernel
theorem dX6_odds_126 : decode cX6_odds 126 = .ok (.lreturn, 1) := by decide +kernel
set_option maxRecDepth 20000 in
theorem ggX6_sheet_X6_isSheet : GoodIn wsX6_sheet wsX6_isSheet := goodIn_r _ [6] (by decide +kernel) (by decide +kernel)
set_option maxRecDepth 20000 in
theorem gX6_sheet_X6_isSheet : GoodIn wsX6_sheet (va_wsS RX6 71 yX6_isSheet wsX6_isSheet) := goodIn_app (goodIn_of _ (by decide +kernel)) ggX6_sheet_X6_isSheet
set_option maxRecDepth 20000 in
theorem ggX6_sheet_X6_isLane : GoodIn wsX6_sheet wsX6_isLane := goodIn_r _ [9] (by decide +kernel) (by decide +kernel)
set_option maxRecDepth 20000 in
theorem gX6_sheet_X6_isLane : GoodIn wsX6_sheet (va_wsS RX6 75 yX6_isLane wsX6_isLane) := goodIn_app (goodIn_of _ (by decide +kernel)) ggX6_sheet_X6_isLane
set_option maxRecDepth 20000 in
theorem ggX6_sheet_X6_faulted : GoodIn wsX6_sheet wsX6_faulted := goodIn_r _ [13, 1, 23, 24, 25, 26, 27, 28, 29, 30, 31, 32, 33] (by decide +kernel) (by decide +kernel)
set_option maxRecDepth 20000 in
theorem gX6_sheet_X6_faulted : GoodIn wsX6_sheet (wsV RX6 82 RX6 yX6_faulted wsX6_faulted) := goodIn_app (goodIn_of _ (by decide +kernel)) ggX6_sheet_X6_faulted
set_option maxRecDepth 20000 in
theorem ggX6_sheet_X5_begin : GoodIn wsX6_sheet wsX5_begin := goodIn_r _ [18, 19, 20, 21, 22, 34, 35, 36, 37] (by decide +kernel) (by decide +kernel)
set_option maxRecDepth 20000 in
theorem gX6_sheet_X5_begin : GoodIn wsX6_sheet (wsV RX6 223 RX5 yX5_begin wsX5_begin) := goodIn_app (goodIn_of _ (by decide +kernel)) ggX6_sheet_X5_begin
theorem dX6_sheet_0 : decode cX6_sheet 0 = .ok (.aload_n 0, 1) := by decide +kernel
theorem dX6_sheet_1 : decode cX6_sheet 1 = .ok (.iconst 0, 1) := by decide +kernel
theorem dX6_sheet_2 : decode cX6_sheet 2 = .ok (.putfield 67, 3) := by decide +kernel
theorem dX6_sheet_5 : decode cX6_sheet 5 = .ok (.iload_n 1, 1) := by decide +kernel
theorem dX6_sheet_6 : decode cX6_sheet 6 = .ok (.invokestatic 71, 3) := by decide +kernel
theorem dX6_sheet_9 : decode cX6_sheet 9 = .ok (.ifCond .ne 5, 3) := by decide +kernel
theorem dX6_sheet_12 : decode cX6_sheet 12 = .ok (.iconst (-1), 1) := by decide +kernel
theorem dX6_sheet_13 : decode cX6_sheet 13 = .ok (.ireturn, 1) := by decide +kernel
theorem dX6_sheet_14 : decode cX6_sheet 14 = .ok (.iload_n 2, 1) := by decide +kernel
theorem dX6_sheet_15 : decode cX6_sheet 15 = .ok (.invokestatic 75, 3) := by decide +kernel
theorem dX6_sheet_18 : decode cX6_sheet 18 = .ok (.ifCond .eq 9, 3) := by decide +kernel
theorem dX6_sheet_21 : decode cX6_sheet 21 = .ok (.iload_n 3, 1) := by decide +kernel
theorem dX6_sheet_22 : decode cX6_sheet 22 = .ok (.bipush 60, 2) := by decide +kernel
theorem dX6_sheet_24 : decode cX6_sheet 24 = .ok (.if_icmp .le 6, 3) := by decide +kernel
theorem dX6_sheet_27 : decode cX6_sheet 27 = .ok (.bipush (-2), 2) := by decide +kernel
theorem dX6_sheet_29 : decode cX6_sheet 29 = .ok (.ireturn, 1) := by decide +kernel
theorem dX6_sheet_30 : decode cX6_sheet 30 = .ok (.iload_n 3, 1) := by decide +kernel
theorem dX6_sheet_31 : decode cX6_sheet 31 = .ok (.ifCond .ge 9, 3) := by decide +kernel
theorem dX6_sheet_34 : decode cX6_sheet 34 = .ok (.aload_n 0, 1) := by decide +kernel
theorem dX6_sheet_35 : decode cX6_sheet 35 = .ok (.iconst 4, 1) := by decide +kernel
theorem dX6_sheet_36 : decode cX6_sheet 36 = .ok (.invokevirtual 82, 3) := by decide +kernel
theorem dX6_sheet_39 : decode cX6_sheet 39 = .ok (.ireturn, 1) := by decide +kernel
theorem dX6_sheet_40 : decode cX6_sheet 40 = .ok (.aload_n 0, 1) := by decide +kernel
theorem dX6_sheet_41 : decode cX6_sheet 41 = .ok (.getfield 13, 3) := by decide +kernel
theorem dX6_sheet_44 : decode cX6_sheet 44 = .ok (.iload_n 1, 1) := by decide +kernel
theorem dX6_sheet_45 : decode cX6_sheet 45 = .ok (.aaload, 1) := by decide +kernel
theorem dX6_sheet_46 : decode cX6_sheet 46 = .ok (.iload_n 2, 1) := by decide +kernel
theorem dX6_sheet_47 : decode cX6_sheet 47 = .ok (.iload_n 3, 1) := by decide +kernel
theorem dX6_sheet_48 : decode cX6_sheet 48 = .ok (.invokevirtual 223, 3) := by decide +kernel
theorem dX6_sheet_51 : decode cX6_sheet 51 = .ok (.iconst 1, 1) := by decide +kernel
theorem dX6_sheet_52 : decode cX6_sheet 52 = .ok (.ireturn, 1) := by decide +kernel
set_option maxRecDepth 20000 in
theorem ggX6_lose_X6_isSheet : GoodIn wsX6_lose wsX6_isSheet := goodIn_r _ [6] (by decide +kernel) (by decide +kernel)
set_option maxRecDepth 20000 in
theorem gX6_lose_X6_isSheet : GoodIn wsX6_lose (va_wsS RX6 71 yX6_isSheet wsX6_isSheet) := goodIn_app (goodIn_of _ (by decide +kernel)) ggX6_lose_X6_isSheet
theorem dX6_lose_0 : decode cX6_lose 0 = .ok (.iload_n 1, 1) := by decide +kernel
theorem dX6_lose_1 : decode cX6_lose 1 = .ok (.invokestatic 71, 3) := by decide +kernel
theorem dX6_lose_4 : decode cX6_lose 4 = .ok (.ifCond .ne 5, 3) := by decide +kernel
theorem dX6_lose_7 : decode cX6_lose 7 = .ok (.iconst (-1), 1) := by decide +kernel
theorem dX6_lose_8 : decode cX6_lose 8 = .ok (.ireturn, 1) := by decide +kernel
theorem dX6_lose_9 : decode cX6_lose 9 = .ok (.aload_n 0, 1) := by decide +kernel
theorem dX6_lose_10 : decode cX6_lose 10 = .ok (.getfield 13, 3) := by decide +kernel
theorem dX6_lose_13 : decode cX6_lose 13 = .ok (.iload_n 1, 1) := by decide +kernel
theorem dX6_lose_14 : decode cX6_lose 14 = .ok (.aaload, 1) := by decide +kernel
theorem dX6_lose_15 : decode cX6_lose 15 = .ok (.getfield 227, 3) := by decide +kernel
theorem dX6_lose_18 : decode cX6_lose 18 = .ok (.istore_n 2, 1) := by decide +kernel
theorem dX6_lose_19 : decode cX6_lose 19 = .ok (.aload_n 0, 1) := by decide +kernel
theorem dX6_lose_20 : decode cX6_lose 20 = .ok (.getfield 13, 3) := by decide +kernel
theorem dX6_lose_23 : decode cX6_lose 23 = .ok (.iload_n 1, 1) := by decide +kernel
theorem dX6_lose_24 : decode cX6_lose 24 = .ok (.aaload, 1) := by decide +kernel
theorem dX6_lose_25 : decode cX6_lose 25 = .ok (.iconst 0, 1) := by decide +kernel
theorem dX6_lose_26 : decode cX6_lose 26 = .ok (.putfield 227, 3) := by decide +kernel
theorem dX6_lose_29 : decode cX6_lose 29 = .ok (.iload_n 2, 1) := by decide +kernel
theorem dX6_lose_30 : decode cX6_lose 30 = .ok (.ifCond .eq 7, 3) := by decide +kernel
theorem dX6_lose_33 : decode cX6_lose 33 = .ok (.iconst 1, 1) := by decide +kernel
theorem dX6_lose_34 : decode cX6_lose 34 = .ok (.goto 4, 3) := by decide +kernel
theorem dX6_lose_37 : decode cX6_lose 37 = .ok (.iconst 0, 1) := by decide +kernel
theorem dX6_lose_38 : decode cX6_lose 38 = .ok (.ireturn, 1) := by decide +kernel
set_option maxRecDepth 20000 in
theorem ggX6_put_X6_isSheet : GoodIn wsX6_put wsX6_isSheet := goodIn_r _ [8] (by decide +kernel) (by decide +kernel)
set_option maxRecDepth 20000 in
theorem gX6_put_X6_isSheet : GoodIn wsX6_put (va_wsS RX6 71 yX6_isSheet wsX6_isSheet) := goodIn_app (goodIn_of _ (by decide +kernel)) ggX6_put_X6_isSheet
set_option maxRecDepth 20000 in
theorem ggX6_put_X5_faultOfCells : GoodIn wsX6_put wsX5_faultOfCells := goodIn_r _ [13, 14, 15, 16, 17, 18, 12, 19, 20, 39, 40, 41, 42] (by decide +kernel) (by decide +kernel)
set_option maxRecDepth 20000 in
theorem gX6_put_X5_faultOfCells : GoodIn wsX6_put (wsV RX6 78 RX5 yX5_faultOfCells wsX5_faultOfCells) := goodIn_app (goodIn_of _ (by decide +kernel)) ggX6_put_X5_faultOfCells
set_option maxRecDepth 20000 in
theorem ggX6_put_X6_faulted : GoodIn wsX6_put wsX6_faulted := goodIn_r _ [24, 1, 28, 29, 30, 31, 32, 33, 34, 35, 36, 37, 38] (by decide +kernel) (by decide +kernel)
set_option maxRecDepth 20000 in
theorem gX6_put_X6_faulted : GoodIn wsX6_put (wsV RX6 82 RX6 yX6_faulted wsX6_faulted) := goodIn_app (goodIn_of _ (by decide +kernel)) ggX6_put_X6_faulted
set_option maxRecDepth 20000 in
theorem ggX6_put_X6_cutToLane : GoodIn wsX6_put wsX6_cutToLane := goodIn_r _ [27] (by decide +kernel) (by decide +kernel)
set_option maxRecDepth 20000 in
theorem gX6_put_X6_cutToLane : GoodIn wsX6_put (va_wsS RX6 234 yX6_cutToLane wsX6_cutToLane) := goodIn_app (goodIn_of _ (by decide +kernel)) ggX6_put_X6_cutToLane
theorem dX6_put_0 : decode cX6_put 0 = .ok (.aload_n 0, 1) := by decide +kernel
theorem dX6_put_1 : decode cX6_put 1 = .ok (.iconst 0, 1) := by decide +kernel
theorem dX6_put_2 : decode cX6_put 2 = .ok (.putfield 67, 3) := by decide +kernel
theorem dX6_put_5 : decode cX6_put 5 = .ok (.iload_n 1, 1) := by decide +kernel
theorem dX6_put_6 : decode cX6_put 6 = .ok (.invokestatic 71, 3) := by decide +kernel
theorem dX6_put_9 : decode cX6_put 9 = .ok (.ifCond .ne 5, 3) := by decide +kernel
theorem dX6_put_12 : decode cX6_put 12 = .ok (.iconst (-1), 1) := by decide +kernel
theorem dX6_put_13 : decode cX6_put 13 = .ok (.ireturn, 1) := by decide +kernel
theorem dX6_put_14 : decode cX6_put 14 = .ok (.aload_n 0, 1) := by decide +kernel
theorem dX6_put_15 : decode cX6_put 15 = .ok (.getfield 13, 3) := by decide +kernel
theorem dX6_put_18 : decode cX6_put 18 = .ok (.iload_n 1, 1) := by decide +kernel
theorem dX6_put_19 : decode cX6_put 19 = .ok (.aaload, 1) := by decide +kernel
theorem dX6_put_20 : decode cX6_put 20 = .ok (.astore 4, 2) := by decide +kernel
theorem dX6_put_22 : decode cX6_put 22 = .ok (.aload 4, 2) := by decide +kernel
theorem dX6_put_24 : decode cX6_put 24 = .ok (.aload 4, 2) := by decide +kernel
theorem dX6_put_26 : decode cX6_put 26 = .ok (.getfield 231, 3) := by decide +kernel
theorem dX6_put_29 : decode cX6_put 29 = .ok (.iload_n 2, 1) := by decide +kernel
theorem dX6_put_30 : decode cX6_put 30 = .ok (.iconst 1, 1) := by decide +kernel
theorem dX6_put_31 : decode cX6_put 31 = .ok (.invokevirtual 78, 3) := by decide +kernel
theorem dX6_put_34 : decode cX6_put 34 = .ok (.istore 5, 2) := by decide +kernel
theorem dX6_put_36 : decode cX6_put 36 = .ok (.iload 5, 2) := by decide +kernel
theorem dX6_put_38 : decode cX6_put 38 = .ok (.ifCond .eq 10, 3) := by decide +kernel
theorem dX6_put_41 : decode cX6_put 41 = .ok (.aload_n 0, 1) := by decide +kernel
theorem dX6_put_42 : decode cX6_put 42 = .ok (.iload 5, 2) := by decide +kernel
theorem dX6_put_44 : decode cX6_put 44 = .ok (.invokevirtual 82, 3) := by decide +kernel
theorem dX6_put_47 : decode cX6_put 47 = .ok (.ireturn, 1) := by decide +kernel
theorem dX6_put_48 : decode cX6_put 48 = .ok (.aload 4, 2) := by decide +kernel
theorem dX6_put_50 : decode cX6_put 50 = .ok (.getfield 86, 3) := by decide +kernel
theorem dX6_put_53 : decode cX6_put 53 = .ok (.iload_n 2, 1) := by decide +kernel
theorem dX6_put_54 : decode cX6_put 54 = .ok (.iload_n 3, 1) := by decide +kernel
theorem dX6_put_55 : decode cX6_put 55 = .ok (.aload 4, 2) := by decide +kernel
theorem dX6_put_57 : decode cX6_put 57 = .ok (.getfield 231, 3) := by decide +kernel
theorem dX6_put_60 : decode cX6_put 60 = .ok (.invokestatic 234, 3) := by decide +kernel
theorem dX6_put_63 : decode cX6_put 63 = .ok (.iastore, 1) := by decide +kernel
theorem dX6_put_64 : decode cX6_put 64 = .ok (.iconst 1, 1) := by decide +kernel
theorem dX6_put_65 : decode cX6_put 65 = .ok (.ireturn, 1) := by decide +kernel
set_option maxRecDepth 20000 in
theorem ggX6_cell_X6_isSheet : GoodIn wsX6_cell wsX6_isSheet := goodIn_r _ [8] (by decide +kernel) (by decide +kernel)
set_option maxRecDepth 20000 in
theorem gX6_cell_X6_isSheet : GoodIn wsX6_cell (va_wsS RX6 71 yX6_isSheet wsX6_isSheet) := goodIn_app (goodIn_of _ (by decide +kernel)) ggX6_cell_X6_isSheet
set_option maxRecDepth 20000 in
theorem ggX6_cell_X6_isLane : GoodIn wsX6_cell wsX6_isLane := goodIn_r _ [11] (by decide +kernel) (by decide +kernel)
set_option maxRecDepth 20000 in
theorem gX6_cell_X6_isLane : GoodIn wsX6_cell (va_wsS RX6 75 yX6_isLane wsX6_isLane) := goodIn_app (goodIn_of _ (by decide +kernel)) ggX6_cell_X6_isLane
set_option maxRecDepth 20000 in
theorem ggX6_cell_X5_faultOfCells : GoodIn wsX6_cell wsX5_faultOfCells := goodIn_r _ [16, 17, 18, 19, 20, 21, 15, 22, 23, 39, 40, 41, 42] (by decide +kernel) (by decide +kernel)
set_option maxRecDepth 20000 in
theorem gX6_cell_X5_faultOfCells : GoodIn wsX6_cell (wsV RX6 78 RX5 yX5_faultOfCells wsX5_faultOfCells) := goodIn_app (goodIn_of _ (by decide +kernel)) ggX6_cell_X5_faultOfCells
set_option maxRecDepth 20000 in
theorem ggX6_cell_X6_faulted : GoodIn wsX6_cell wsX6_faulted := goodIn_r _ [27, 1, 28, 29, 30, 31, 32, 33, 34, 35, 36, 37, 38] (by decide +kernel) (by decide +kernel)
set_option maxRecDepth 20000 in
theorem gX6_cell_X6_faulted : GoodIn wsX6_cell (wsV RX6 82 RX6 yX6_faulted wsX6_faulted) := goodIn_app (goodIn_of _ (by decide +kernel)) ggX6_cell_X6_faulted
theorem dX6_cell_0 : decode cX6_cell 0 = .ok (.aload_n 0, 1) := by decide +kernel
theorem dX6_cell_1 : decode cX6_cell 1 = .ok (.iconst 0, 1) := by decide +kernel
theorem dX6_cell_2 : decode cX6_cell 2 = .ok (.putfield 67, 3) := by decide +kernel
theorem dX6_cell_5 : decode cX6_cell 5 = .ok (.iload_n 1, 1) := by decide +kernel
theorem dX6_cell_6 : decode cX6_cell 6 = .ok (.invokestatic 71, 3) := by decide +kernel
theorem dX6_cell_9 : decode cX6_cell 9 = .ok (.ifCond .eq 10, 3) := by decide +kernel
theorem dX6_cell_12 : decode cX6_cell 12 = .ok (.iload_n 3, 1) := by decide +kernel
theorem dX6_cell_13 : decode cX6_cell 13 = .ok (.invokestatic 75, 3) := by decide +kernel
theorem dX6_cell_16 : decode cX6_cell 16 = .ok (.ifCond .ne 7, 3) := by decide +kernel
theorem dX6_cell_19 : decode cX6_cell 19 = .ok (.ldc2_w 218, 3) := by decide +kernel
theorem dX6_cell_22 : decode cX6_cell 22 = .ok (.lreturn, 1) := by decide +kernel
theorem dX6_cell_23 : decode cX6_cell 23 = .ok (.aload_n 0, 1) := by decide +kernel
theorem dX6_cell_24 : decode cX6_cell 24 = .ok (.getfield 13, 3) := by decide +kernel
theorem dX6_cell_27 : decode cX6_cell 27 = .ok (.iload_n 1, 1) := by decide +kernel
theorem dX6_cell_28 : decode cX6_cell 28 = .ok (.aaload, 1) := by decide +kernel
theorem dX6_cell_29 : decode cX6_cell 29 = .ok (.iload_n 3, 1) := by decide +kernel
theorem dX6_cell_30 : decode cX6_cell 30 = .ok (.iload_n 2, 1) := by decide +kernel
theorem dX6_cell_31 : decode cX6_cell 31 = .ok (.iconst 1, 1) := by decide +kernel
theorem dX6_cell_32 : decode cX6_cell 32 = .ok (.invokevirtual 78, 3) := by decide +kernel
theorem dX6_cell_35 : decode cX6_cell 35 = .ok (.istore 4, 2) := by decide +kernel
theorem dX6_cell_37 : decode cX6_cell 37 = .ok (.iload 4, 2) := by decide +kernel
theorem dX6_cell_39 : decode cX6_cell 39 = .ok (.ifCond .eq 14, 3) := by decide +kernel
theorem dX6_cell_42 : decode cX6_cell 42 = .ok (.aload_n 0, 1) := by decide +kernel
theorem dX6_cell_43 : decode cX6_cell 43 = .ok (.iload 4, 2) := by decide +kernel
theorem dX6_cell_45 : decode cX6_cell 45 = .ok (.invokevirtual 82, 3) := by decide +kernel
theorem dX6_cell_48 : decode cX6_cell 48 = .ok (.pop, 1) := by decide +kernel
theorem dX6_cell_49 : decode cX6_cell 49 = .ok (.ldc2_w 218, 3) := by decide +kernel
theorem dX6_cell_52 : decode cX6_cell 52 = .ok (.lreturn, 1) := by decide +kernel
theorem dX6_cell_53 : decode cX6_cell 53 = .ok (.aload_n 0, 1) := by decide +kernel
theorem dX6_cell_54 : decode cX6_cell 54 = .ok (.getfield 13, 3) := by decide +kernel
theorem dX6_cell_57 : decode cX6_cell 57 = .ok (.iload_n 1, 1) := by decide +kernel
theorem dX6_cell_58 : decode cX6_cell 58 = .ok (.aaload, 1) := by decide +kernel
theorem dX6_cell_59 : decode cX6_cell 59 = .ok (.getfield 86, 3) := by decide +kernel
theorem dX6_cell_62 : decode cX6_cell 62 = .ok (.iload_n 2, 1) := by decide +kernel
theorem dX6_cell_63 : decode cX6_cell 63 = .ok (.iaload, 1) := by decide +kernel
theorem dX6_cell_64 : decode cX6_cell 64 = .ok (.i2l, 1) := by decide +kernel
theorem dX6_cell_65 : decode cX6_cell 65 = .ok (.lreturn, 1) := by decide +kernel
set_option maxRecDepth 20000 in
theorem ggX6_copy_X6_isSheet : GoodIn wsX6_copy wsX6_isSheet := goodIn_r _ [13] (by decide +kernel) (by decide +kernel)
set_option maxRecDepth 20000 in
theorem gX6_copy_X6_isSheet : GoodIn wsX6_copy (va_wsS RX6 71 yX6_isSheet wsX6_isSheet) := goodIn_app (goodIn_of _ (by decide +kernel)) ggX6_copy_X6_isSheet
set_option maxRecDepth 20000 in
theorem ggX6_copy_X6_faulted : GoodIn wsX6_copy wsX6_faulted := goodIn_r _ [17, 1, 24, 25, 26, 27, 28, 29, 30, 31, 32, 33, 34] (by decide +kernel) (by decide +kernel)
set_option maxRecDepth 20000 in
theorem gX6_copy_X6_faulted : GoodIn wsX6_copy (wsV RX6 82 RX6 yX6_faulted wsX6_faulted) := goodIn_app (goodIn_of _ (by decide +kernel)) ggX6_copy_X6_faulted
set_option maxRecDepth 20000 in
theorem ggX6_copy_X5_hasCells : GoodIn wsX6_copy wsX5_hasCells := goodIn_r _ [22, 23, 35, 36, 37, 38] (by decide +kernel) (by decide +kernel)
set_option maxRecDepth 20000 in
theorem gX6_copy_X5_hasCells : GoodIn wsX6_copy (wsV RX6 237 RX5 yX5_hasCells wsX5_hasCells) := goodIn_app (goodIn_of _ (by decide +kernel)) ggX6_copy_X5_hasCells
theorem dX6_copy_0 : decode cX6_copy 0 = .ok (.aload_n 0, 1) := by decide +kernel
theorem dX6_copy_1 : decode cX6_copy 1 = .ok (.iconst 0, 1) := by decide +kernel
theorem dX6_copy_2 : decode cX6_copy 2 = .ok (.putfield 67, 3) := by decide +kernel
theorem dX6_copy_5 : decode cX6_copy 5 = .ok (.iload_n 1, 1) := by decide +kernel
theorem dX6_copy_6 : decode cX6_copy 6 = .ok (.invokestatic 71, 3) := by decide +kernel
theorem dX6_copy_9 : decode cX6_copy 9 = .ok (.ifCond .eq 10, 3) := by decide +kernel
theorem dX6_copy_12 : decode cX6_copy 12 = .ok (.iload_n 3, 1) := by decide +kernel
theorem dX6_copy_13 : decode cX6_copy 13 = .ok (.invokestatic 71, 3) := by decide +kernel
theorem dX6_copy_16 : decode cX6_copy 16 = .ok (.ifCond .ne 5, 3) := by decide +kernel
theorem dX6_copy_19 : decode cX6_copy 19 = .ok (.iconst (-1), 1) := by decide +kernel
theorem dX6_copy_20 : decode cX6_copy 20 = .ok (.ireturn, 1) := by decide +kernel
theorem dX6_copy_21 : decode cX6_copy 21 = .ok (.aload_n 0, 1) := by decide +kernel
theorem dX6_copy_22 : decode cX6_copy 22 = .ok (.getfield 13, 3) := by decide +kernel
theorem dX6_copy_25 : decode cX6_copy 25 = .ok (.iload_n 1, 1) := by decide +kernel
theorem dX6_copy_26 : decode cX6_copy 26 = .ok (.aaload, 1) := by decide +kernel
theorem dX6_copy_27 : decode cX6_copy 27 = .ok (.astore 6, 2) := by decide +kernel
theorem dX6_copy_29 : decode cX6_copy 29 = .ok (.aload_n 0, 1) := by decide +kernel
theorem dX6_copy_30 : decode cX6_copy 30 = .ok (.getfield 13, 3) := by decide +kernel
theorem dX6_copy_33 : decode cX6_copy 33 = .ok (.iload_n 3, 1) := by decide +kernel
theorem dX6_copy_34 : decode cX6_copy 34 = .ok (.aaload, 1) := by decide +kernel
theorem dX6_copy_35 : decode cX6_copy 35 = .ok (.astore 7, 2) := by decide +kernel
theorem dX6_copy_37 : decode cX6_copy 37 = .ok (.aload 6, 2) := by decide +kernel
theorem dX6_copy_39 : decode cX6_copy 39 = .ok (.getfield 227, 3) := by decide +kernel
theorem dX6_copy_42 : decode cX6_copy 42 = .ok (.ifCond .eq 11, 3) := by decide +kernel
theorem dX6_copy_45 : decode cX6_copy 45 = .ok (.aload 7, 2) := by decide +kernel
theorem dX6_copy_47 : decode cX6_copy 47 = .ok (.getfield 227, 3) := by decide +kernel
theorem dX6_copy_50 : decode cX6_copy 50 = .ok (.ifCond .ne 9, 3) := by decide +kernel
theorem dX6_copy_53 : decode cX6_copy 53 = .ok (.aload_n 0, 1) := by decide +kernel
theorem dX6_copy_54 : decode cX6_copy 54 = .ok (.iconst 1, 1) := by decide +kernel
theorem dX6_copy_55 : decode cX6_copy 55 = .ok (.invokevirtual 82, 3) := by decide +kernel
theorem dX6_copy_58 : decode cX6_copy 58 = .ok (.ireturn, 1) := by decide +kernel
theorem dX6_copy_59 : decode cX6_copy 59 = .ok (.aload 6, 2) := by decide +kernel
theorem dX6_copy_61 : decode cX6_copy 61 = .ok (.getfield 231, 3) := by decide +kernel
theorem dX6_copy_64 : decode cX6_copy 64 = .ok (.aload 7, 2) := by decide +kernel
theorem dX6_copy_66 : decode cX6_copy 66 = .ok (.getfield 231, 3) := by decide +kernel
theorem dX6_copy_69 : decode cX6_copy 69 = .ok (.if_icmp .eq 9, 3) := by decide +kernel
theorem dX6_copy_72 : decode cX6_copy 72 = .ok (.aload_n 0, 1) := by decide +kernel
theorem dX6_copy_73 : decode cX6_copy 73 = .ok (.iconst 2, 1) := by decide +kernel
theorem dX6_copy_74 : decode cX6_copy 74 = .ok (.invokevirtual 82, 3) := by decide +kernel
theorem dX6_copy_77 : decode cX6_copy 77 = .ok (.ireturn, 1) := by decide +kernel
theorem dX6_copy_78 : decode cX6_copy 78 = .ok (.iload 5, 2) := by decide +kernel
theorem dX6_copy_80 : decode cX6_copy 80 = .ok (.ifCond .lt 26, 3) := by decide +kernel
theorem dX6_copy_83 : decode cX6_copy 83 = .ok (.aload 6, 2) := by decide +kernel
theorem dX6_copy_85 : decode cX6_copy 85 = .ok (.iload_n 2, 1) := by decide +kernel
theorem dX6_copy_86 : decode cX6_copy 86 = .ok (.iload 5, 2) := by decide +kernel
theorem dX6_copy_88 : decode cX6_copy 88 = .ok (.invokevirtual 237, 3) := by decide +kernel
theorem dX6_copy_91 : decode cX6_copy 91 = .ok (.ifCond .eq 15, 3) := by decide +kernel
theorem dX6_copy_94 : decode cX6_copy 94 = .ok (.aload 7, 2) := by decide +kernel
theorem dX6_copy_96 : decode cX6_copy 96 = .ok (.iload 4, 2) := by decide +kernel
theorem dX6_copy_98 : decode cX6_copy 98 = .ok (.iload 5, 2) := by decide +kernel
theorem dX6_copy_100 : decode cX6_copy 100 = .ok (.invokevirtual 237, 3) := by decide +kernel
theorem dX6_copy_103 : decode cX6_copy 103 = .ok (.ifCond .ne 9, 3) := by decide +kernel
theorem dX6_copy_106 : decode cX6_copy 106 = .ok (.aload_n 0, 1) := by decide +kernel
theorem dX6_copy_107 : decode cX6_copy 107 = .ok (.iconst 3, 1) := by decide +kernel
theorem dX6_copy_108 : decode cX6_copy 108 = .ok (.invokevirtual 82, 3) := by decide +kernel
theorem dX6_copy_111 : decode cX6_copy 111 = .ok (.ireturn, 1) := by decide +kernel
theorem dX6_copy_112 : decode cX6_copy 112 = .ok (.aload 6, 2) := by decide +kernel
theorem dX6_copy_114 : decode cX6_copy 114 = .ok (.getfield 86, 3) := by decide +kernel
theorem dX6_copy_117 : decode cX6_copy 117 = .ok (.iload_n 2, 1) := by decide +kernel
theorem dX6_copy_118 : decode cX6_copy 118 = .ok (.aload 7, 2) := by decide +kernel
theorem dX6_copy_120 : decode cX6_copy 120 = .ok (.getfield 86, 3) := by decide +kernel
theorem dX6_copy_123 : decode cX6_copy 123 = .ok (.iload 4, 2) := by decide +kernel
theorem dX6_copy_125 : decode cX6_copy 125 = .ok (.iload 5, 2) := by decide +kernel
theorem dX6_copy_127 : decode cX6_copy 127 = .ok (.invokestatic 241, 3) := by decide +kernel
theorem dX6_copy_130 : decode cX6_copy 130 = .ok (.iload 5, 2) := by decide +kernel
theorem dX6_copy_132 : decode cX6_copy 132 = .ok (.ireturn, 1) := by decide +kernel
set_option maxRecDepth 20000 in
theorem ggX6_tell_X6_isGallery : GoodIn wsX6_tell wsX6_isGallery := goodIn_r _ [7, 1, 8, 27, 28, 29, 30, 31, 32, 33, 34, 35, 36, 37, 38, 39, 40, 41, 42, 43] (by decide +kernel) (by decide +kernel)
set_option maxRecDepth 20000 in
theorem gX6_tell_X6_isGallery : GoodIn wsX6_tell (wsV RX6 100 RX6 yX6_isGallery wsX6_isGallery) := goodIn_app (goodIn_of _ (by decide +kernel)) ggX6_tell_X6_isGallery
set_option maxRecDepth 20000 in
theorem ggX6_tell_X6_brightBody : GoodIn wsX6_tell wsX6_brightBody := goodIn_r _ [12, 13, 14, 15, 6, 16, 17, 18, 19, 20, 21, 22, 23, 24, 25, 1, 26, 27, 28, 29, 30, 31, 32, 33, 34, 35, 36, 37, 38, 39, 40, 41, 42, 43] (by decide +kernel) (by decide +kernel)
set_option maxRecDepth 20000 in
theorem gX6_tell_X6_brightBody : GoodIn wsX6_tell (wsV RX6 247 RX6 yX6_brightBody wsX6_brightBody) := goodIn_app (goodIn_of _ (by decide +kernel)) ggX6_tell_X6_brightBody
set_option maxRecDepth 20000 in
theorem ggX6_tell_X6_greenBody : GoodIn wsX6_tell wsX6_greenBody := goodIn_r _ [21, 13, 14, 15, 6, 16, 17, 22, 23, 24, 25, 1, 26, 27, 28, 29, 30, 31, 32, 33, 34, 35, 36, 37, 38, 39, 40, 41, 42, 43] (by decide +kernel) (by decide +kernel)
set_option maxRecDepth 20000 in
theorem gX6_tell_X6_greenBody : GoodIn wsX6_tell (wsV RX6 250 RX6 yX6_greenBody wsX6_greenBody) := goodIn_app (goodIn_of _ (by decide +kernel)) ggX6_tell_X6_greenBody
set_option maxRecDepth 20000 in
theorem ggX6_tell_X6_greyBody : GoodIn wsX6_tell wsX6_greyBody := goodIn_r _ [25, 1, 26, 13, 14, 15, 6, 16, 17, 27, 28, 29, 30, 31, 32, 33, 34, 35, 36, 37, 38, 39, 40, 41, 42, 43] (by decide +kernel) (by decide +kernel)
set_option maxRecDepth 20000 in
theorem gX6_tell_X6_greyBody : GoodIn wsX6_tell (wsV RX6 253 RX6 yX6_greyBody wsX6_greyBody) := goodIn_app (goodIn_of _ (by decide +kernel)) ggX6_tell_X6_greyBody
theorem dX6_tell_0 : decode cX6_tell 0 = .ok (.aload_n 0, 1) := by decide +kernel
theorem dX6_tell_1 : decode cX6_tell 1 = .ok (.iload_n 1, 1) := by decide +kernel
theorem dX6_tell_2 : decode cX6_tell 2 = .ok (.invokevirtual 100, 3) := by decide +kernel
theorem dX6_tell_5 : decode cX6_tell 5 = .ok (.ifCond .ne 5, 3) := by decide +kernel
theorem dX6_tell_8 : decode cX6_tell 8 = .ok (.iconst (-1), 1) := by decide +kernel
theorem dX6_tell_9 : decode cX6_tell 9 = .ok (.ireturn, 1) := by decide +kernel
theorem dX6_tell_10 : decode cX6_tell 10 = .ok (.aload_n 0, 1) := by decide +kernel
theorem dX6_tell_11 : decode cX6_tell 11 = .ok (.getfield 20, 3) := by decide +kernel
theorem dX6_tell_14 : decode cX6_tell 14 = .ok (.getfield 103, 3) := by decide +kernel
theorem dX6_tell_17 : decode cX6_tell 17 = .ok (.iload_n 1, 1) := by decide +kernel
theorem dX6_tell_18 : decode cX6_tell 18 = .ok (.iaload, 1) := by decide +kernel
theorem dX6_tell_19 : decode cX6_tell 19 = .ok (.lookupswitch 37 #[(1, 31), (2, 25)], 25) := by decide +kernel
theorem dX6_tell_44 : decode cX6_tell 44 = .ok (.aload_n 0, 1) := by decide +kernel
theorem dX6_tell_45 : decode cX6_tell 45 = .ok (.iload_n 1, 1) := by decide +kernel
theorem dX6_tell_46 : decode cX6_tell 46 = .ok (.invokevirtual 247, 3) := by decide +kernel
theorem dX6_tell_49 : decode cX6_tell 49 = .ok (.ireturn, 1) := by decide +kernel
theorem dX6_tell_50 : decode cX6_tell 50 = .ok (.aload_n 0, 1) := by decide +kernel
theorem dX6_tell_51 : decode cX6_tell 51 = .ok (.iload_n 1, 1) := by decide +kernel
theorem dX6_tell_52 : decode cX6_tell 52 = .ok (.invokevirtual 250, 3) := by decide +kernel
theorem dX6_tell_55 : decode cX6_tell 55 = .ok (.ireturn, 1) := by decide +kernel
theorem dX6_tell_56 : decode cX6_tell 56 = .ok (.aload_n 0, 1) := by decide +kernel
theorem dX6_tell_57 : decode cX6_tell 57 = .ok (.iload_n 1, 1) := by decide +kernel
theorem dX6_tell_58 : decode cX6_tell 58 = .ok (.invokevirtual 253, 3) := by decide +kernel
theorem dX6_tell_61 : decode cX6_tell 61 = .ok (.ireturn, 1) := by decide +kernel
set_option maxRecDepth 20000 in
theorem ggX6_sign_X6_isGallery : GoodIn wsX6_sign wsX6_isGallery := goodIn_r _ [7, 1, 8, 22, 23, 24, 25, 26, 27, 28, 29, 30, 31, 32, 33, 34, 35, 36, 37, 38] (by decide +kernel) (by decide +kernel)
set_option maxRecDepth 20000 in
theorem gX6_sign_X6_isGallery : GoodIn wsX6_sign (wsV RX6 100 RX6 yX6_isGallery wsX6_isGallery) := goodIn_app (goodIn_of _ (by decide +kernel)) ggX6_sign_X6_isGallery
set_option maxRecDepth 20000 in
theorem ggX6_sign_X6_brightSignature : GoodIn wsX6_sign wsX6_brightSignature := goodIn_r _ [12, 13, 14, 15, 6, 16, 17, 22, 23, 24, 25, 26, 27, 28, 29, 30, 31, 32] (by decide +kernel) (by decide +kernel)
set_option maxRecDepth 20000 in
theorem gX6_sign_X6_brightSignature : GoodIn wsX6_sign (wsV RX6 256 RX6 yX6_brightSignature wsX6_brightSignature) := goodIn_app (goodIn_of _ (by decide +kernel)) ggX6_sign_X6_brightSignature
set_option maxRecDepth 20000 in
theorem ggX6_sign_X6_lentSignature : GoodIn wsX6_sign wsX6_lentSignature := goodIn_r _ [21, 13, 14, 15, 6, 16, 17, 22, 23, 24, 25, 26, 27, 28, 29, 30, 31, 32] (by decide +kernel) (by decide +kernel)
set_option maxRecDepth 20000 in
theorem gX6_sign_X6_lentSignature : GoodIn wsX6_sign (wsV RX6 260 RX6 yX6_lentSignature wsX6_lentSignature) := goodIn_app (goodIn_of _ (by decide +kernel)) ggX6_sign_X6_lentSignature
theorem dX6_sign_0 : decode cX6_sign 0 = .ok (.aload_n 0, 1) := by decide +kernel
theorem dX6_sign_1 : decode cX6_sign 1 = .ok (.iload_n 1, 1) := by decide +kernel
theorem dX6_sign_2 : decode cX6_sign 2 = .ok (.invokevirtual 100, 3) := by decide +kernel
theorem dX6_sign_5 : decode cX6_sign 5 = .ok (.ifCond .ne 5, 3) := by decide +kernel
theorem dX6_sign_8 : decode cX6_sign 8 = .ok (.iconst (-1), 1) := by decide +kernel
theorem dX6_sign_9 : decode cX6_sign 9 = .ok (.ireturn, 1) := by decide +kernel
theorem dX6_sign_10 : decode cX6_sign 10 = .ok (.aload_n 0, 1) := by decide +kernel
theorem dX6_sign_11 : decode cX6_sign 11 = .ok (.getfield 20, 3) := by decide +kernel
theorem dX6_sign_14 : decode cX6_sign 14 = .ok (.getfield 103, 3) := by decide +kernel
theorem dX6_sign_17 : decode cX6_sign 17 = .ok (.iload_n 1, 1) := by decide +kernel
theorem dX6_sign_18 : decode cX6_sign 18 = .ok (.iaload, 1) := by decide +kernel
theorem dX6_sign_19 : decode cX6_sign 19 = .ok (.iconst 2, 1) := by decide +kernel
theorem dX6_sign_20 : decode cX6_sign 20 = .ok (.if_icmp .ne 10, 3) := by decide +kernel
theorem dX6_sign_23 : decode cX6_sign 23 = .ok (.aload_n 0, 1) := by decide +kernel
theorem dX6_sign_24 : decode cX6_sign 24 = .ok (.invokevirtual 256, 3) := by decide +kernel
theorem dX6_sign_27 : decode cX6_sign 27 = .ok (.goto 8, 3) := by decide +kernel
theorem dX6_sign_30 : decode cX6_sign 30 = .ok (.aload_n 0, 1) := by decide +kernel
theorem dX6_sign_31 : decode cX6_sign 31 = .ok (.iload_n 1, 1) := by decide +kernel
theorem dX6_sign_32 : decode cX6_sign 32 = .ok (.invokevirtual 260, 3) := by decide +kernel
theorem dX6_sign_35 : decode cX6_sign 35 = .ok (.ireturn, 1) := by decide +kernel
set_option maxRecDepth 20000 in
theorem ggX6_as_X6_isGallery : GoodIn wsX6_as wsX6_isGallery := goodIn_r _ [8, 2, 9, 14, 15, 16, 17, 18, 19, 20, 21, 22, 23, 24, 25, 26, 27, 28, 29, 30] (by decide +kernel) (by decide +kernel)
set_option maxRecDepth 20000 in
theorem gX6_as_X6_isGallery : GoodIn wsX6_as (wsV RX6 100 RX6 yX6_isGallery wsX6_isGallery) := goodIn_app (goodIn_of _ (by decide +kernel)) ggX6_as_X6_isGallery
set_option maxRecDepth 20000 in
theorem ggX6_as_X6_faulted : GoodIn wsX6_as wsX6_faulted := goodIn_r _ [13, 1, 14, 15, 16, 17, 18, 19, 20, 21, 22, 23, 24] (by decide +kernel) (by decide +kernel)
set_option maxRecDepth 20000 in
theorem gX6_as_X6_faulted : GoodIn wsX6_as (wsV RX6 82 RX6 yX6_faulted wsX6_faulted) := goodIn_app (goodIn_of _ (by decide +kernel)) ggX6_as_X6_faulted
theorem dX6_as_0 : decode cX6_as 0 = .ok (.aload_n 0, 1) := by decide +kernel
theorem dX6_as_1 : decode cX6_as 1 = .ok (.iconst 0, 1) := by decide +kernel
theorem dX6_as_2 : decode cX6_as 2 = .ok (.putfield 67, 3) := by decide +kernel
theorem dX6_as_5 : decode cX6_as 5 = .ok (.aload_n 0, 1) := by decide +kernel
theorem dX6_as_6 : decode cX6_as 6 = .ok (.iload_n 1, 1) := by decide +kernel
theorem dX6_as_7 : decode cX6_as 7 = .ok (.invokevirtual 100, 3) := by decide +kernel
theorem dX6_as_10 : decode cX6_as 10 = .ok (.ifCond .ne 5, 3) := by decide +kernel
theorem dX6_as_13 : decode cX6_as 13 = .ok (.iconst (-1), 1) := by decide +kernel
theorem dX6_as_14 : decode cX6_as 14 = .ok (.ireturn, 1) := by decide +kernel
theorem dX6_as_15 : decode cX6_as 15 = .ok (.iload_n 2, 1) := by decide +kernel
theorem dX6_as_16 : decode cX6_as 16 = .ok (.ifCond .lt 8, 3) := by decide +kernel
theorem dX6_as_19 : decode cX6_as 19 = .ok (.iload_n 2, 1) := by decide +kernel
theorem dX6_as_20 : decode cX6_as 20 = .ok (.iconst 3, 1) := by decide +kernel
theorem dX6_as_21 : decode cX6_as 21 = .ok (.if_icmp .lt 6, 3) := by decide +kernel
theorem dX6_as_24 : decode cX6_as 24 = .ok (.bipush (-2), 2) := by decide +kernel
theorem dX6_as_26 : decode cX6_as 26 = .ok (.ireturn, 1) := by decide +kernel
theorem dX6_as_27 : decode cX6_as 27 = .ok (.iload_n 2, 1) := by decide +kernel
theorem dX6_as_28 : decode cX6_as 28 = .ok (.aload_n 0, 1) := by decide +kernel
theorem dX6_as_29 : decode cX6_as 29 = .ok (.getfield 20, 3) := by decide +kernel
theorem dX6_as_32 : decode cX6_as 32 = .ok (.getfield 103, 3) := by decide +kernel
theorem dX6_as_35 : decode cX6_as 35 = .ok (.iload_n 1, 1) := by decide +kernel
theorem dX6_as_36 : decode cX6_as 36 = .ok (.iaload, 1) := by decide +kernel
theorem dX6_as_37 : decode cX6_as 37 = .ok (.if_icmp .gt 7, 3) := by decide +kernel
theorem dX6_as_40 : decode cX6_as 40 = .ok (.iconst 1, 1) := by decide +kernel
theorem dX6_as_41 : decode cX6_as 41 = .ok (.goto 8, 3) := by decide +kernel
theorem dX6_as_44 : decode cX6_as 44 = .ok (.aload_n 0, 1) := by decide +kernel
theorem dX6_as_45 : decode cX6_as 45 = .ok (.iconst 2, 1) := by decide +kernel
theorem dX6_as_46 : decode cX6_as 46 = .ok (.invokevirtual 82, 3) := by decide +kernel
theorem dX6_as_49 : decode cX6_as 49 = .ok (.ireturn, 1) := by decide +kernel
theorem dX6_trace_0 : decode cX6_trace 0 = .ok (.aload_n 0, 1) := by decide +kernel
theorem dX6_trace_1 : decode cX6_trace 1 = .ok (.getfield 64, 3) := by decide +kernel
theorem dX6_trace_4 : decode cX6_trace 4 = .ok (.ireturn, 1) := by decide +kernel
theorem dX6_fault_0 : decode cX6_fault 0 = .ok (.aload_n 0, 1) := by decide +kernel
theorem dX6_fault_1 : decode cX6_fault 1 = .ok (.getfield 67, 3) := by decide +kernel
theorem dX6_fault_4 : decode cX6_fault 4 = .ok (.ireturn, 1) := by decide +kernel
set_option maxRecDepth 20000 in
theorem ggX6_many_J6_bitCount_0f7a4 : GoodIn wsX6_many wsJ6_bitCount_0f7a4 := goodIn_r _ [12, 13, 14, 15] (by decide +kernel) (by decide +kernel)
set_option maxRecDepth 20000 in
theorem gX6_many_J6_bitCount_0f7a4 : GoodIn wsX6_many (va_wsS RX6 148 yJ6_bitCount_0f7a4 wsJ6_bitCount_0f7a4) := goodIn_app (goodIn_of _ (by decide +kernel)) ggX6_many_J6_bitCount_0f7a4
theorem dX6_many_0 : decode cX6_many 0 = .ok (.iload_n 1, 1) := by decide +kernel
theorem dX6_many_1 : decode cX6_many 1 = .ok (.tableswitch 75 0 4 #[35, 43, 51, 56, 67], 35) := by decide +kernel
theorem dX6_many_36 : decode cX6_many 36 = .ok (.aload_n 0, 1) := by decide +kernel
theorem dX6_many_37 : decode cX6_many 37 = .ok (.getfield 20, 3) := by decide +kernel
theorem dX6_many_40 : decode cX6_many 40 = .ok (.getfield 97, 3) := by decide +kernel
theorem dX6_many_43 : decode cX6_many 43 = .ok (.ireturn, 1) := by decide +kernel
theorem dX6_many_44 : decode cX6_many 44 = .ok (.aload_n 0, 1) := by decide +kernel
theorem dX6_many_45 : decode cX6_many 45 = .ok (.getfield 20, 3) := by decide +kernel
theorem dX6_many_48 : decode cX6_many 48 = .ok (.getfield 196, 3) := by decide +kernel
theorem dX6_many_51 : decode cX6_many 51 = .ok (.ireturn, 1) := by decide +kernel
theorem dX6_many_52 : decode cX6_many 52 = .ok (.aload_n 0, 1) := by decide +kernel
theorem dX6_many_53 : decode cX6_many 53 = .ok (.getfield 60, 3) := by decide +kernel
theorem dX6_many_56 : decode cX6_many 56 = .ok (.ireturn, 1) := by decide +kernel
theorem dX6_many_57 : decode cX6_many 57 = .ok (.aload_n 0, 1) := by decide +kernel
theorem dX6_many_58 : decode cX6_many 58 = .ok (.getfield 27, 3) := by decide +kernel
theorem dX6_many_61 : decode cX6_many 61 = .ok (.getfield 115, 3) := by decide +kernel
theorem dX6_many_64 : decode cX6_many 64 = .ok (.invokestatic 148, 3) := by decide +kernel
theorem dX6_many_67 : decode cX6_many 67 = .ok (.ireturn, 1) := by decide +kernel
theorem dX6_many_68 : decode cX6_many 68 = .ok (.aload_n 0, 1) := by decide +kernel
theorem dX6_many_69 : decode cX6_many 69 = .ok (.getfield 34, 3) := by decide +kernel
theorem dX6_many_72 : decode cX6_many 72 = .ok (.getfield 206, 3) := by decide +kernel
theorem dX6_many_75 : decode cX6_many 75 = .ok (.ireturn, 1) := by decide +kernel
theorem dX6_many_76 : decode cX6_many 76 = .ok (.bipush (-2), 2) := by decide +kernel
theorem dX6_many_78 : decode cX6_many 78 = .ok (.ireturn, 1) := by decide +kernel
theorem dX6_hasMine_0 : decode cX6_hasMine 0 = .ok (.aload_n 0, 1) := by decide +kernel
theorem dX6_hasMine_1 : decode cX6_hasMine 1 = .ok (.getfield 20, 3) := by decide +kernel
theorem dX6_hasMine_4 : decode cX6_hasMine 4 = .ok (.getfield 97, 3) := by decide +kernel
theorem dX6_hasMine_7 : decode cX6_hasMine 7 = .ok (.ifCond .le 7, 3) := by decide +kernel
theorem dX6_hasMine_10 : decode cX6_hasMine 10 = .ok (.iconst 1, 1) := by decide +kernel
theorem dX6_hasMine_11 : decode cX6_hasMine 11 = .ok (.goto 4, 3) := by decide +kernel
theorem dX6_hasMine_14 : decode cX6_hasMine 14 = .ok (.iconst 0, 1) := by decide +kernel
theorem dX6_hasMine_15 : decode cX6_hasMine 15 = .ok (.ireturn, 1) := by decide +kernel
theorem dX6_isGallery_0 : decode cX6_isGallery 0 = .ok (.iload_n 1, 1) := by decide +kernel
theorem dX6_isGallery_1 : decode cX6_isGallery 1 = .ok (.ifCond .lt 18, 3) := by decide +kernel
theorem dX6_isGallery_4 : decode cX6_isGallery 4 = .ok (.iload_n 1, 1) := by decide +kernel
theorem dX6_isGallery_5 : decode cX6_isGallery 5 = .ok (.aload_n 0, 1) := by decide +kernel
theorem dX6_isGallery_6 : decode cX6_isGallery 6 = .ok (.getfield 20, 3) := by decide +kernel
theorem dX6_isGallery_9 : decode cX6_isGallery 9 = .ok (.getfield 97, 3) := by decide +kernel
theorem dX6_isGallery_12 : decode cX6_isGallery 12 = .ok (.if_icmp .ge 7, 3) := by decide +kernel
theorem dX6_isGallery_15 : decode cX6_isGallery 15 = .ok (.iconst 1, 1) := by decide +kernel
theorem dX6_isGallery_16 : decode cX6_isGallery 16 = .ok (.goto 4, 3) := by decide +kernel
theorem dX6_isGallery_19 : decode cX6_isGallery 19 = .ok (.iconst 0, 1) := by decide +kernel
theorem dX6_isGallery_20 : decode cX6_isGallery 20 = .ok (.ireturn, 1) := by decide +kernel
theorem dX6_isWord_0 : decode cX6_isWord 0 = .ok (.iload_n 1, 1) := by decide +kernel
theorem dX6_isWord_1 : decode cX6_isWord 1 = .ok (.ifCond .lt 18, 3) := by decide +kernel
theorem dX6_isWord_4 : decode cX6_isWord 4 = .ok (.iload_n 1, 1) := by decide +kernel
theorem dX6_isWord_5 : decode cX6_isWord 5 = .ok (.aload_n 0, 1) := by decide +kernel
theorem dX6_isWord_6 : decode cX6_isWord 6 = .ok (.getfield 20, 3) := by decide +kernel
theorem dX6_isWord_9 : decode cX6_isWord 9 = .ok (.getfield 196, 3) := by decide +kernel
theorem dX6_isWord_12 : decode cX6_isWord 12 = .ok (.if_icmp .ge 7, 3) := by decide +kernel
theorem dX6_isWord_15 : decode cX6_isWord 15 = .ok (.iconst 1, 1) := by decide +kernel
theorem dX6_isWord_16 : decode cX6_isWord 16 = .ok (.goto 4, 3) := by decide +kernel
theorem dX6_isWord_19 : decode cX6_isWord 19 = .ok (.iconst 0, 1) := by decide +kernel
theorem dX6_isWord_20 : decode cX6_isWord 20 = .ok (.ireturn, 1) := by decide +kernel
theorem dX6_isDoor_0 : decode cX6_isDoor 0 = .ok (.iload_n 1, 1) := by decide +kernel
theorem dX6_isDoor_1 : decode cX6_isDoor 1 = .ok (.ifCond .lt 20, 3) := by decide +kernel
theorem dX6_isDoor_4 : decode cX6_isDoor 4 = .ok (.iload_n 1, 1) := by decide +kernel
theorem dX6_isDoor_5 : decode cX6_isDoor 5 = .ok (.aload_n 0, 1) := by decide +kernel
theorem dX6_isDoor_6 : decode cX6_isDoor 6 = .ok (.getfield 20, 3) := by decide +kernel
theorem dX6_isDoor_9 : decode cX6_isDoor 9 = .ok (.getfield 97, 3) := by decide +kernel
theorem dX6_isDoor_12 : decode cX6_isDoor 12 = .ok (.iconst 1, 1) := by decide +kernel
theorem dX6_isDoor_13 : decode cX6_isDoor 13 = .ok (.isub, 1) := by decide +kernel
theorem dX6_isDoor_14 : decode cX6_isDoor 14 = .ok (.if_icmp .ge 7, 3) := by decide +kernel
end
section
theorem dX6_isDoor_17 : decode cX6_isDoor 17 = .ok (.iconst 1, 1) := by decide +kernel
theorem dX6_isDoor_18 : decode cX6_isDoor 18 = .ok (.goto 4, 3) := by decide +kernel
theorem dX6_isDoor_21 : decode cX6_isDoor 21 = .ok (.iconst 0, 1) := by decide +kernel
theorem dX6_isDoor_22 : decode cX6_isDoor 22 = .ok (.ireturn, 1) := by decide +kernel
theorem dX6_isSheet_0 : decode cX6_isSheet 0 = .ok (.iload_n 0, 1) := by decide +kernel
theorem dX6_isSheet_1 : decode cX6_isSheet 1 = .ok (.ifCond .lt 12, 3) := by decide +kernel
theorem dX6_isSheet_4 : decode cX6_isSheet 4 = .ok (.iload_n 0, 1) := by decide +kernel
theorem dX6_isSheet_5 : decode cX6_isSheet 5 = .ok (.iconst 4, 1) := by decide +kernel
theorem dX6_isSheet_6 : decode cX6_isSheet 6 = .ok (.if_icmp .ge 7, 3) := by decide +kernel
theorem dX6_isSheet_9 : decode cX6_isSheet 9 = .ok (.iconst 1, 1) := by decide +kernel
theorem dX6_isSheet_10 : decode cX6_isSheet 10 = .ok (.goto 4, 3) := by decide +kernel
theorem dX6_isSheet_13 : decode cX6_isSheet 13 = .ok (.iconst 0, 1) := by decide +kernel
theorem dX6_isSheet_14 : decode cX6_isSheet 14 = .ok (.ireturn, 1) := by decide +kernel
theorem dX6_isLane_0 : decode cX6_isLane 0 = .ok (.iload_n 0, 1) := by decide +kernel
theorem dX6_isLane_1 : decode cX6_isLane 1 = .ok (.ifCond .lt 12, 3) := by decide +kernel
theorem dX6_isLane_4 : decode cX6_isLane 4 = .ok (.iload_n 0, 1) := by decide +kernel
theorem dX6_isLane_5 : decode cX6_isLane 5 = .ok (.iconst 3, 1) := by decide +kernel
theorem dX6_isLane_6 : decode cX6_isLane 6 = .ok (.if_icmp .ge 7, 3) := by decide +kernel
theorem dX6_isLane_9 : decode cX6_isLane 9 = .ok (.iconst 1, 1) := by decide +kernel
theorem dX6_isLane_10 : decode cX6_isLane 10 = .ok (.goto 4, 3) := by decide +kernel
theorem dX6_isLane_13 : decode cX6_isLane 13 = .ok (.iconst 0, 1) := by decide +kernel
theorem dX6_isLane_14 : decode cX6_isLane 14 = .ok (.ireturn, 1) := by decide +kernel
theorem dX6_isFoul_0 : decode cX6_isFoul 0 = .ok (.iload_n 0, 1) := by decide +kernel
theorem dX6_isFoul_1 : decode cX6_isFoul 1 = .ok (.ifCond .lt 13, 3) := by decide +kernel
theorem dX6_isFoul_4 : decode cX6_isFoul 4 = .ok (.iload_n 0, 1) := by decide +kernel
theorem dX6_isFoul_5 : decode cX6_isFoul 5 = .ok (.bipush 40, 2) := by decide +kernel
theorem dX6_isFoul_7 : decode cX6_isFoul 7 = .ok (.if_icmp .gt 7, 3) := by decide +kernel
theorem dX6_isFoul_10 : decode cX6_isFoul 10 = .ok (.iconst 1, 1) := by decide +kernel
theorem dX6_isFoul_11 : decode cX6_isFoul 11 = .ok (.goto 4, 3) := by decide +kernel
theorem dX6_isFoul_14 : decode cX6_isFoul 14 = .ok (.iconst 0, 1) := by decide +kernel
theorem dX6_isFoul_15 : decode cX6_isFoul 15 = .ok (.ireturn, 1) := by decide +kernel
theorem dX6_isOfShift_0 : decode cX6_isOfShift 0 = .ok (.iload_n 0, 1) := by decide +kernel
theorem dX6_isOfShift_1 : decode cX6_isOfShift 1 = .ok (.ifCond .lt 8, 3) := by decide +kernel
theorem dX6_isOfShift_4 : decode cX6_isOfShift 4 = .ok (.iload_n 0, 1) := by decide +kernel
theorem dX6_isOfShift_5 : decode cX6_isOfShift 5 = .ok (.iconst 3, 1) := by decide +kernel
theorem dX6_isOfShift_6 : decode cX6_isOfShift 6 = .ok (.if_icmp .le 15, 3) := by decide +kernel
theorem dX6_isOfShift_9 : decode cX6_isOfShift 9 = .ok (.iload_n 0, 1) := by decide +kernel
theorem dX6_isOfShift_10 : decode cX6_isOfShift 10 = .ok (.bipush 10, 2) := by decide +kernel
theorem dX6_isOfShift_12 : decode cX6_isOfShift 12 = .ok (.if_icmp .lt 13, 3) := by decide +kernel
theorem dX6_isOfShift_15 : decode cX6_isOfShift 15 = .ok (.iload_n 0, 1) := by decide +kernel
theorem dX6_isOfShift_16 : decode cX6_isOfShift 16 = .ok (.bipush 16, 2) := by decide +kernel
theorem dX6_isOfShift_18 : decode cX6_isOfShift 18 = .ok (.if_icmp .ge 7, 3) := by decide +kernel
theorem dX6_isOfShift_21 : decode cX6_isOfShift 21 = .ok (.iconst 1, 1) := by decide +kernel
theorem dX6_isOfShift_22 : decode cX6_isOfShift 22 = .ok (.goto 4, 3) := by decide +kernel
theorem dX6_isOfShift_25 : decode cX6_isOfShift 25 = .ok (.iconst 0, 1) := by decide +kernel
theorem dX6_isOfShift_26 : decode cX6_isOfShift 26 = .ok (.ireturn, 1) := by decide +kernel
theorem dX6_faulted_0 : decode cX6_faulted 0 = .ok (.aload_n 0, 1) := by decide +kernel
theorem dX6_faulted_1 : decode cX6_faulted 1 = .ok (.iload_n 1, 1) := by decide +kernel
theorem dX6_faulted_2 : decode cX6_faulted 2 = .ok (.putfield 67, 3) := by decide +kernel
theorem dX6_faulted_5 : decode cX6_faulted 5 = .ok (.bipush (-10), 2) := by decide +kernel
theorem dX6_faulted_7 : decode cX6_faulted 7 = .ok (.iload_n 1, 1) := by decide +kernel
theorem dX6_faulted_8 : decode cX6_faulted 8 = .ok (.isub, 1) := by decide +kernel
theorem dX6_faulted_9 : decode cX6_faulted 9 = .ok (.ireturn, 1) := by decide +kernel
set_option maxRecDepth 20000 in
theorem ggX6_firstFaultOfText_X6_wordsOfText : GoodIn wsX6_firstFaultOfText wsX6_wordsOfText := goodIn_r _ [4, 5, 6, 3, 7] (by decide +kernel) (by decide +kernel)
set_option maxRecDepth 20000 in
theorem gX6_firstFaultOfText_X6_wordsOfText : GoodIn wsX6_firstFaultOfText (va_wsS RX6 263 yX6_wordsOfText wsX6_wordsOfText) := goodIn_app (goodIn_of _ (by decide +kernel)) ggX6_firstFaultOfText_X6_wordsOfText
set_option maxRecDepth 20000 in
theorem ggX6_firstFaultOfText_X6_fitsGallery : GoodIn wsX6_firstFaultOfText wsX6_fitsGallery := goodIn_r _ [10, 11, 12, 3, 13, 5, 6, 7] (by decide +kernel) (by decide +kernel)
set_option maxRecDepth 20000 in
theorem gX6_firstFaultOfText_X6_fitsGallery : GoodIn wsX6_firstFaultOfText (va_wsS RX6 266 yX6_fitsGallery wsX6_fitsGallery) := goodIn_app (goodIn_of _ (by decide +kernel)) ggX6_firstFaultOfText_X6_fitsGallery
theorem dX6_firstFaultOfText_0 : decode cX6_firstFaultOfText 0 = .ok (.iload_n 2, 1) := by decide +kernel
theorem dX6_firstFaultOfText_1 : decode cX6_firstFaultOfText 1 = .ok (.ifCond .eq 11, 3) := by decide +kernel
theorem dX6_firstFaultOfText_4 : decode cX6_firstFaultOfText 4 = .ok (.aload_n 0, 1) := by decide +kernel
theorem dX6_firstFaultOfText_5 : decode cX6_firstFaultOfText 5 = .ok (.iload_n 1, 1) := by decide +kernel
theorem dX6_firstFaultOfText_6 : decode cX6_firstFaultOfText 6 = .ok (.iaload, 1) := by decide +kernel
theorem dX6_firstFaultOfText_7 : decode cX6_firstFaultOfText 7 = .ok (.bipush 109, 2) := by decide +kernel
theorem dX6_firstFaultOfText_9 : decode cX6_firstFaultOfText 9 = .ok (.if_icmp .eq 5, 3) := by decide +kernel
theorem dX6_firstFaultOfText_12 : decode cX6_firstFaultOfText 12 = .ok (.iconst 0, 1) := by decide +kernel
theorem dX6_firstFaultOfText_13 : decode cX6_firstFaultOfText 13 = .ok (.ireturn, 1) := by decide +kernel
theorem dX6_firstFaultOfText_14 : decode cX6_firstFaultOfText 14 = .ok (.aload_n 0, 1) := by decide +kernel
theorem dX6_firstFaultOfText_15 : decode cX6_firstFaultOfText 15 = .ok (.iload_n 1, 1) := by decide +kernel
theorem dX6_firstFaultOfText_16 : decode cX6_firstFaultOfText 16 = .ok (.iload_n 2, 1) := by decide +kernel
theorem dX6_firstFaultOfText_17 : decode cX6_firstFaultOfText 17 = .ok (.invokestatic 263, 3) := by decide +kernel
theorem dX6_firstFaultOfText_20 : decode cX6_firstFaultOfText 20 = .ok (.istore_n 3, 1) := by decide +kernel
theorem dX6_firstFaultOfText_21 : decode cX6_firstFaultOfText 21 = .ok (.iload_n 3, 1) := by decide +kernel
theorem dX6_firstFaultOfText_22 : decode cX6_firstFaultOfText 22 = .ok (.ifCond .ne 5, 3) := by decide +kernel
theorem dX6_firstFaultOfText_25 : decode cX6_firstFaultOfText 25 = .ok (.iconst 1, 1) := by decide +kernel
theorem dX6_firstFaultOfText_26 : decode cX6_firstFaultOfText 26 = .ok (.ireturn, 1) := by decide +kernel
theorem dX6_firstFaultOfText_27 : decode cX6_firstFaultOfText 27 = .ok (.iconst 1, 1) := by decide +kernel
theorem dX6_firstFaultOfText_28 : decode cX6_firstFaultOfText 28 = .ok (.iload_n 3, 1) := by decide +kernel
theorem dX6_firstFaultOfText_29 : decode cX6_firstFaultOfText 29 = .ok (.iadd, 1) := by decide +kernel
theorem dX6_firstFaultOfText_30 : decode cX6_firstFaultOfText 30 = .ok (.istore 4, 2) := by decide +kernel
theorem dX6_firstFaultOfText_32 : decode cX6_firstFaultOfText 32 = .ok (.iconst 0, 1) := by decide +kernel
theorem dX6_firstFaultOfText_33 : decode cX6_firstFaultOfText 33 = .ok (.istore 5, 2) := by decide +kernel
theorem dX6_firstFaultOfText_35 : decode cX6_firstFaultOfText 35 = .ok (.iload 5, 2) := by decide +kernel
theorem dX6_firstFaultOfText_37 : decode cX6_firstFaultOfText 37 = .ok (.bipush 6, 2) := by decide +kernel
theorem dX6_firstFaultOfText_39 : decode cX6_firstFaultOfText 39 = .ok (.if_icmp .ge 65, 3) := by decide +kernel
theorem dX6_firstFaultOfText_42 : decode cX6_firstFaultOfText 42 = .ok (.iload 4, 2) := by decide +kernel
theorem dX6_firstFaultOfText_44 : decode cX6_firstFaultOfText 44 = .ok (.iload_n 2, 1) := by decide +kernel
theorem dX6_firstFaultOfText_45 : decode cX6_firstFaultOfText 45 = .ok (.if_icmp .ne 12, 3) := by decide +kernel
theorem dX6_firstFaultOfText_48 : decode cX6_firstFaultOfText 48 = .ok (.iload 5, 2) := by decide +kernel
theorem dX6_firstFaultOfText_50 : decode cX6_firstFaultOfText 50 = .ok (.iconst 2, 1) := by decide +kernel
theorem dX6_firstFaultOfText_51 : decode cX6_firstFaultOfText 51 = .ok (.if_icmp .lt 6, 3) := by decide +kernel
theorem dX6_firstFaultOfText_54 : decode cX6_firstFaultOfText 54 = .ok (.bipush (-9), 2) := by decide +kernel
theorem dX6_firstFaultOfText_56 : decode cX6_firstFaultOfText 56 = .ok (.ireturn, 1) := by decide +kernel
theorem dX6_firstFaultOfText_57 : decode cX6_firstFaultOfText 57 = .ok (.iconst 0, 1) := by decide +kernel
theorem dX6_firstFaultOfText_58 : decode cX6_firstFaultOfText 58 = .ok (.istore 6, 2) := by decide +kernel
theorem dX6_firstFaultOfText_60 : decode cX6_firstFaultOfText 60 = .ok (.iload 6, 2) := by decide +kernel
theorem dX6_firstFaultOfText_62 : decode cX6_firstFaultOfText 62 = .ok (.iconst 5, 1) := by decide +kernel
theorem dX6_firstFaultOfText_63 : decode cX6_firstFaultOfText 63 = .ok (.if_icmp .ge 35, 3) := by decide +kernel
theorem dX6_firstFaultOfText_66 : decode cX6_firstFaultOfText 66 = .ok (.iload 4, 2) := by decide +kernel
theorem dX6_firstFaultOfText_68 : decode cX6_firstFaultOfText 68 = .ok (.iload_n 2, 1) := by decide +kernel
theorem dX6_firstFaultOfText_69 : decode cX6_firstFaultOfText 69 = .ok (.if_icmp .eq 17, 3) := by decide +kernel
theorem dX6_firstFaultOfText_72 : decode cX6_firstFaultOfText 72 = .ok (.iload 6, 2) := by decide +kernel
theorem dX6_firstFaultOfText_74 : decode cX6_firstFaultOfText 74 = .ok (.aload_n 0, 1) := by decide +kernel
theorem dX6_firstFaultOfText_75 : decode cX6_firstFaultOfText 75 = .ok (.iload_n 1, 1) := by decide +kernel
theorem dX6_firstFaultOfText_76 : decode cX6_firstFaultOfText 76 = .ok (.iload 4, 2) := by decide +kernel
theorem dX6_firstFaultOfText_78 : decode cX6_firstFaultOfText 78 = .ok (.iadd, 1) := by decide +kernel
theorem dX6_firstFaultOfText_79 : decode cX6_firstFaultOfText 79 = .ok (.iaload, 1) := by decide +kernel
theorem dX6_firstFaultOfText_80 : decode cX6_firstFaultOfText 80 = .ok (.invokestatic 266, 3) := by decide +kernel
theorem dX6_firstFaultOfText_83 : decode cX6_firstFaultOfText 83 = .ok (.ifCond .ne 6, 3) := by decide +kernel
theorem dX6_firstFaultOfText_86 : decode cX6_firstFaultOfText 86 = .ok (.iload 4, 2) := by decide +kernel
theorem dX6_firstFaultOfText_88 : decode cX6_firstFaultOfText 88 = .ok (.ireturn, 1) := by decide +kernel
theorem dX6_firstFaultOfText_89 : decode cX6_firstFaultOfText 89 = .ok (.iinc 4 1, 3) := by decide +kernel
theorem dX6_firstFaultOfText_92 : decode cX6_firstFaultOfText 92 = .ok (.iinc 6 1, 3) := by decide +kernel
theorem dX6_firstFaultOfText_95 : decode cX6_firstFaultOfText 95 = .ok (.goto (-35), 3) := by decide +kernel
theorem dX6_firstFaultOfText_98 : decode cX6_firstFaultOfText 98 = .ok (.iinc 5 1, 3) := by decide +kernel
theorem dX6_firstFaultOfText_101 : decode cX6_firstFaultOfText 101 = .ok (.goto (-66), 3) := by decide +kernel
theorem dX6_firstFaultOfText_104 : decode cX6_firstFaultOfText 104 = .ok (.iload 4, 2) := by decide +kernel
theorem dX6_firstFaultOfText_106 : decode cX6_firstFaultOfText 106 = .ok (.iload_n 2, 1) := by decide +kernel
theorem dX6_firstFaultOfText_107 : decode cX6_firstFaultOfText 107 = .ok (.if_icmp .ne 8, 3) := by decide +kernel
theorem dX6_firstFaultOfText_110 : decode cX6_firstFaultOfText 110 = .ok (.bipush (-9), 2) := by decide +kernel
theorem dX6_firstFaultOfText_112 : decode cX6_firstFaultOfText 112 = .ok (.goto 5, 3) := by decide +kernel
theorem dX6_firstFaultOfText_115 : decode cX6_firstFaultOfText 115 = .ok (.iload 4, 2) := by decide +kernel
theorem dX6_firstFaultOfText_117 : decode cX6_firstFaultOfText 117 = .ok (.ireturn, 1) := by decide +kernel
set_option maxRecDepth 20000 in
theorem ggX6_wordsOfText_X6_isDigit : GoodIn wsX6_wordsOfText wsX6_isDigit := goodIn_r _ [4] (by decide +kernel) (by decide +kernel)
set_option maxRecDepth 20000 in
theorem gX6_wordsOfText_X6_isDigit : GoodIn wsX6_wordsOfText (va_wsS RX6 269 yX6_isDigit wsX6_isDigit) := goodIn_app (goodIn_of _ (by decide +kernel)) ggX6_wordsOfText_X6_isDigit
theorem dX6_wordsOfText_0 : decode cX6_wordsOfText 0 = .ok (.iconst 0, 1) := by decide +kernel
theorem dX6_wordsOfText_1 : decode cX6_wordsOfText 1 = .ok (.istore_n 3, 1) := by decide +kernel
theorem dX6_wordsOfText_2 : decode cX6_wordsOfText 2 = .ok (.iload_n 3, 1) := by decide +kernel
theorem dX6_wordsOfText_3 : decode cX6_wordsOfText 3 = .ok (.iconst 4, 1) := by decide +kernel
theorem dX6_wordsOfText_4 : decode cX6_wordsOfText 4 = .ok (.if_icmp .ge 32, 3) := by decide +kernel
theorem dX6_wordsOfText_7 : decode cX6_wordsOfText 7 = .ok (.iconst 1, 1) := by decide +kernel
theorem dX6_wordsOfText_8 : decode cX6_wordsOfText 8 = .ok (.iload_n 3, 1) := by decide +kernel
theorem dX6_wordsOfText_9 : decode cX6_wordsOfText 9 = .ok (.iadd, 1) := by decide +kernel
theorem dX6_wordsOfText_10 : decode cX6_wordsOfText 10 = .ok (.iload_n 2, 1) := by decide +kernel
theorem dX6_wordsOfText_11 : decode cX6_wordsOfText 11 = .ok (.if_icmp .ge 25, 3) := by decide +kernel
theorem dX6_wordsOfText_14 : decode cX6_wordsOfText 14 = .ok (.aload_n 0, 1) := by decide +kernel
theorem dX6_wordsOfText_15 : decode cX6_wordsOfText 15 = .ok (.iload_n 1, 1) := by decide +kernel
theorem dX6_wordsOfText_16 : decode cX6_wordsOfText 16 = .ok (.iconst 1, 1) := by decide +kernel
theorem dX6_wordsOfText_17 : decode cX6_wordsOfText 17 = .ok (.iadd, 1) := by decide +kernel
theorem dX6_wordsOfText_18 : decode cX6_wordsOfText 18 = .ok (.iload_n 3, 1) := by decide +kernel
theorem dX6_wordsOfText_19 : decode cX6_wordsOfText 19 = .ok (.iadd, 1) := by decide +kernel
theorem dX6_wordsOfText_20 : decode cX6_wordsOfText 20 = .ok (.iaload, 1) := by decide +kernel
theorem dX6_wordsOfText_21 : decode cX6_wordsOfText 21 = .ok (.iconst 0, 1) := by decide +kernel
theorem dX6_wordsOfText_22 : decode cX6_wordsOfText 22 = .ok (.bipush 9, 2) := by decide +kernel
theorem dX6_wordsOfText_24 : decode cX6_wordsOfText 24 = .ok (.invokestatic 269, 3) := by decide +kernel
theorem dX6_wordsOfText_27 : decode cX6_wordsOfText 27 = .ok (.ifCond .eq 9, 3) := by decide +kernel
theorem dX6_wordsOfText_30 : decode cX6_wordsOfText 30 = .ok (.iinc 3 1, 3) := by decide +kernel
theorem dX6_wordsOfText_33 : decode cX6_wordsOfText 33 = .ok (.goto (-31), 3) := by decide +kernel
theorem dX6_wordsOfText_36 : decode cX6_wordsOfText 36 = .ok (.iload_n 3, 1) := by decide +kernel
theorem dX6_wordsOfText_37 : decode cX6_wordsOfText 37 = .ok (.ireturn, 1) := by decide +kernel
set_option maxRecDepth 20000 in
theorem ggX6_fitsGallery_X6_kindOfLetter : GoodIn wsX6_fitsGallery wsX6_kindOfLetter := goodIn_r _ [4] (by decide +kernel) (by decide +kernel)
set_option maxRecDepth 20000 in
theorem gX6_fitsGallery_X6_kindOfLetter : GoodIn wsX6_fitsGallery (va_wsS RX6 273 yX6_kindOfLetter wsX6_kindOfLetter) := goodIn_app (goodIn_of _ (by decide +kernel)) ggX6_fitsGallery_X6_kindOfLetter
set_option maxRecDepth 20000 in
theorem ggX6_fitsGallery_X6_isDigit : GoodIn wsX6_fitsGallery wsX6_isDigit := goodIn_r _ [7] (by decide +kernel) (by decide +kernel)
set_option maxRecDepth 20000 in
theorem gX6_fitsGallery_X6_isDigit : GoodIn wsX6_fitsGallery (va_wsS RX6 269 yX6_isDigit wsX6_isDigit) := goodIn_app (goodIn_of _ (by decide +kernel)) ggX6_fitsGallery_X6_isDigit
theorem dX6_fitsGallery_0 : decode cX6_fitsGallery 0 = .ok (.iload_n 0, 1) := by decide +kernel
theorem dX6_fitsGallery_1 : decode cX6_fitsGallery 1 = .ok (.tableswitch 74 0 3 #[31, 43, 58, 66], 31) := by decide +kernel
theorem dX6_fitsGallery_32 : decode cX6_fitsGallery 32 = .ok (.iload_n 1, 1) := by decide +kernel
theorem dX6_fitsGallery_33 : decode cX6_fitsGallery 33 = .ok (.bipush 59, 2) := by decide +kernel
theorem dX6_fitsGallery_35 : decode cX6_fitsGallery 35 = .ok (.if_icmp .ne 7, 3) := by decide +kernel
theorem dX6_fitsGallery_38 : decode cX6_fitsGallery 38 = .ok (.iconst 1, 1) := by decide +kernel
theorem dX6_fitsGallery_39 : decode cX6_fitsGallery 39 = .ok (.goto 4, 3) := by decide +kernel
theorem dX6_fitsGallery_42 : decode cX6_fitsGallery 42 = .ok (.iconst 0, 1) := by decide +kernel
theorem dX6_fitsGallery_43 : decode cX6_fitsGallery 43 = .ok (.ireturn, 1) := by decide +kernel
theorem dX6_fitsGallery_44 : decode cX6_fitsGallery 44 = .ok (.iload_n 1, 1) := by decide +kernel
theorem dX6_fitsGallery_45 : decode cX6_fitsGallery 45 = .ok (.invokestatic 273, 3) := by decide +kernel
theorem dX6_fitsGallery_48 : decode cX6_fitsGallery 48 = .ok (.bipush (-9), 2) := by decide +kernel
theorem dX6_fitsGallery_50 : decode cX6_fitsGallery 50 = .ok (.if_icmp .eq 7, 3) := by decide +kernel
theorem dX6_fitsGallery_53 : decode cX6_fitsGallery 53 = .ok (.iconst 1, 1) := by decide +kernel
theorem dX6_fitsGallery_54 : decode cX6_fitsGallery 54 = .ok (.goto 4, 3) := by decide +kernel
theorem dX6_fitsGallery_57 : decode cX6_fitsGallery 57 = .ok (.iconst 0, 1) := by decide +kernel
theorem dX6_fitsGallery_58 : decode cX6_fitsGallery 58 = .ok (.ireturn, 1) := by decide +kernel
theorem dX6_fitsGallery_59 : decode cX6_fitsGallery 59 = .ok (.iload_n 1, 1) := by decide +kernel
theorem dX6_fitsGallery_60 : decode cX6_fitsGallery 60 = .ok (.iconst 0, 1) := by decide +kernel
theorem dX6_fitsGallery_61 : decode cX6_fitsGallery 61 = .ok (.bipush 9, 2) := by decide +kernel
theorem dX6_fitsGallery_63 : decode cX6_fitsGallery 63 = .ok (.invokestatic 269, 3) := by decide +kernel
theorem dX6_fitsGallery_66 : decode cX6_fitsGallery 66 = .ok (.ireturn, 1) := by decide +kernel
theorem dX6_fitsGallery_67 : decode cX6_fitsGallery 67 = .ok (.iload_n 1, 1) := by decide +kernel
theorem dX6_fitsGallery_68 : decode cX6_fitsGallery 68 = .ok (.iconst 1, 1) := by decide +kernel
theorem dX6_fitsGallery_69 : decode cX6_fitsGallery 69 = .ok (.bipush 9, 2) := by decide +kernel
theorem dX6_fitsGallery_71 : decode cX6_fitsGallery 71 = .ok (.invokestatic 269, 3) := by decide +kernel
theorem dX6_fitsGallery_74 : decode cX6_fitsGallery 74 = .ok (.ireturn, 1) := by decide +kernel
theorem dX6_fitsGallery_75 : decode cX6_fitsGallery 75 = .ok (.iload_n 1, 1) := by decide +kernel
theorem dX6_fitsGallery_76 : decode cX6_fitsGallery 76 = .ok (.iconst 0, 1) := by decide +kernel
theorem dX6_fitsGallery_77 : decode cX6_fitsGallery 77 = .ok (.iconst 1, 1) := by decide +kernel
theorem dX6_fitsGallery_78 : decode cX6_fitsGallery 78 = .ok (.invokestatic 269, 3) := by decide +kernel
theorem dX6_fitsGallery_81 : decode cX6_fitsGallery 81 = .ok (.ireturn, 1) := by decide +kernel
theorem dX6_isDigit_0 : decode cX6_isDigit 0 = .ok (.iload_n 0, 1) := by decide +kernel
theorem dX6_isDigit_1 : decode cX6_isDigit 1 = .ok (.bipush 48, 2) := by decide +kernel
theorem dX6_isDigit_3 : decode cX6_isDigit 3 = .ok (.iload_n 1, 1) := by decide +kernel
theorem dX6_isDigit_4 : decode cX6_isDigit 4 = .ok (.iadd, 1) := by decide +kernel
theorem dX6_isDigit_5 : decode cX6_isDigit 5 = .ok (.if_icmp .lt 15, 3) := by decide +kernel
theorem dX6_isDigit_8 : decode cX6_isDigit 8 = .ok (.iload_n 0, 1) := by decide +kernel
theorem dX6_isDigit_9 : decode cX6_isDigit 9 = .ok (.bipush 48, 2) := by decide +kernel
theorem dX6_isDigit_11 : decode cX6_isDigit 11 = .ok (.iload_n 2, 1) := by decide +kernel
theorem dX6_isDigit_12 : decode cX6_isDigit 12 = .ok (.iadd, 1) := by decide +kernel
theorem dX6_isDigit_13 : decode cX6_isDigit 13 = .ok (.if_icmp .gt 7, 3) := by decide +kernel
theorem dX6_isDigit_16 : decode cX6_isDigit 16 = .ok (.iconst 1, 1) := by decide +kernel
theorem dX6_isDigit_17 : decode cX6_isDigit 17 = .ok (.goto 4, 3) := by decide +kernel
theorem dX6_isDigit_20 : decode cX6_isDigit 20 = .ok (.iconst 0, 1) := by decide +kernel
theorem dX6_isDigit_21 : decode cX6_isDigit 21 = .ok (.ireturn, 1) := by decide +kernel
theorem dX6_kindOfLetter_0 : decode cX6_kindOfLetter 0 = .ok (.iload_n 0, 1) := by decide +kernel
theorem dX6_kindOfLetter_1 : decode cX6_kindOfLetter 1 = .ok (.lookupswitch 41 #[(98, 39), (103, 35), (110, 37)], 35) := by decide +kernel
theorem dX6_kindOfLetter_36 : decode cX6_kindOfLetter 36 = .ok (.iconst 0, 1) := by decide +kernel
theorem dX6_kindOfLetter_37 : decode cX6_kindOfLetter 37 = .ok (.ireturn, 1) := by decide +kernel
theorem dX6_kindOfLetter_38 : decode cX6_kindOfLetter 38 = .ok (.iconst 1, 1) := by decide +kernel
theorem dX6_kindOfLetter_39 : decode cX6_kindOfLetter 39 = .ok (.ireturn, 1) := by decide +kernel
theorem dX6_kindOfLetter_40 : decode cX6_kindOfLetter 40 = .ok (.iconst 2, 1) := by decide +kernel
theorem dX6_kindOfLetter_41 : decode cX6_kindOfLetter 41 = .ok (.ireturn, 1) := by decide +kernel
theorem dX6_kindOfLetter_42 : decode cX6_kindOfLetter 42 = .ok (.bipush (-9), 2) := by decide +kernel
theorem dX6_kindOfLetter_44 : decode cX6_kindOfLetter 44 = .ok (.ireturn, 1) := by decide +kernel
set_option maxRecDepth 20000 in
theorem ggX6_makeAnew_X6_wordsOfText : GoodIn wsX6_makeAnew wsX6_wordsOfText := goodIn_r _ [21, 22, 23, 20, 24] (by decide +kernel) (by decide +kernel)
set_option maxRecDepth 20000 in
theorem gX6_makeAnew_X6_wordsOfText : GoodIn wsX6_makeAnew (va_wsS RX6 263 yX6_wordsOfText wsX6_wordsOfText) := goodIn_app (goodIn_of _ (by decide +kernel)) ggX6_makeAnew_X6_wordsOfText
set_option maxRecDepth 20000 in
theorem ggX6_makeAnew_X6_kindOfLetter : GoodIn wsX6_makeAnew wsX6_kindOfLetter := goodIn_r _ [27] (by decide +kernel) (by decide +kernel)
set_option maxRecDepth 20000 in
theorem gX6_makeAnew_X6_kindOfLetter : GoodIn wsX6_makeAnew (va_wsS RX6 273 yX6_kindOfLetter wsX6_kindOfLetter) := goodIn_app (goodIn_of _ (by decide +kernel)) ggX6_makeAnew_X6_kindOfLetter
set_option maxRecDepth 20000 in
theorem ggX6_makeAnew_X6_isDoor : GoodIn wsX6_makeAnew wsX6_isDoor := goodIn_r _ [31, 1, 8, 32, 33, 34, 35, 36, 37, 38, 39, 40, 41, 42, 43, 44, 45, 46, 47, 48] (by decide +kernel) (by decide +kernel)
set_option maxRecDepth 20000 in
theorem gX6_makeAnew_X6_isDoor : GoodIn wsX6_makeAnew (wsV RX6 118 RX6 yX6_isDoor wsX6_isDoor) := goodIn_app (goodIn_of _ (by decide +kernel)) ggX6_makeAnew_X6_isDoor
theorem dX6_makeAnew_0 : decode cX6_makeAnew 0 = .ok (.aload_n 0, 1) := by decide +kernel
theorem dX6_makeAnew_1 : decode cX6_makeAnew 1 = .ok (.getfield 20, 3) := by decide +kernel
theorem dX6_makeAnew_4 : decode cX6_makeAnew 4 = .ok (.aload_n 1, 1) := by decide +kernel
theorem dX6_makeAnew_5 : decode cX6_makeAnew 5 = .ok (.iload_n 2, 1) := by decide +kernel
theorem dX6_makeAnew_6 : decode cX6_makeAnew 6 = .ok (.iload_n 3, 1) := by decide +kernel
theorem dX6_makeAnew_7 : decode cX6_makeAnew 7 = .ok (.invokestatic 263, 3) := by decide +kernel
theorem dX6_makeAnew_10 : decode cX6_makeAnew 10 = .ok (.putfield 196, 3) := by decide +kernel
theorem dX6_makeAnew_13 : decode cX6_makeAnew 13 = .ok (.iconst 0, 1) := by decide +kernel
theorem dX6_makeAnew_14 : decode cX6_makeAnew 14 = .ok (.istore 4, 2) := by decide +kernel
theorem dX6_makeAnew_16 : decode cX6_makeAnew 16 = .ok (.iload 4, 2) := by decide +kernel
theorem dX6_makeAnew_18 : decode cX6_makeAnew 18 = .ok (.aload_n 0, 1) := by decide +kernel
theorem dX6_makeAnew_19 : decode cX6_makeAnew 19 = .ok (.getfield 20, 3) := by decide +kernel
theorem dX6_makeAnew_22 : decode cX6_makeAnew 22 = .ok (.getfield 196, 3) := by decide +kernel
theorem dX6_makeAnew_25 : decode cX6_makeAnew 25 = .ok (.if_icmp .ge 30, 3) := by decide +kernel
theorem dX6_makeAnew_28 : decode cX6_makeAnew 28 = .ok (.aload_n 0, 1) := by decide +kernel
theorem dX6_makeAnew_29 : decode cX6_makeAnew 29 = .ok (.getfield 20, 3) := by decide +kernel
theorem dX6_makeAnew_32 : decode cX6_makeAnew 32 = .ok (.getfield 127, 3) := by decide +kernel
theorem dX6_makeAnew_35 : decode cX6_makeAnew 35 = .ok (.iload 4, 2) := by decide +kernel
theorem dX6_makeAnew_37 : decode cX6_makeAnew 37 = .ok (.aload_n 1, 1) := by decide +kernel
theorem dX6_makeAnew_38 : decode cX6_makeAnew 38 = .ok (.iload_n 2, 1) := by decide +kernel
theorem dX6_makeAnew_39 : decode cX6_makeAnew 39 = .ok (.iconst 1, 1) := by decide +kernel
theorem dX6_makeAnew_40 : decode cX6_makeAnew 40 = .ok (.iadd, 1) := by decide +kernel
theorem dX6_makeAnew_41 : decode cX6_makeAnew 41 = .ok (.iload 4, 2) := by decide +kernel
theorem dX6_makeAnew_43 : decode cX6_makeAnew 43 = .ok (.iadd, 1) := by decide +kernel
theorem dX6_makeAnew_44 : decode cX6_makeAnew 44 = .ok (.iaload, 1) := by decide +kernel
theorem dX6_makeAnew_45 : decode cX6_makeAnew 45 = .ok (.bipush 48, 2) := by decide +kernel
theorem dX6_makeAnew_47 : decode cX6_makeAnew 47 = .ok (.isub, 1) := by decide +kernel
theorem dX6_makeAnew_48 : decode cX6_makeAnew 48 = .ok (.iastore, 1) := by decide +kernel
theorem dX6_makeAnew_49 : decode cX6_makeAnew 49 = .ok (.iinc 4 1, 3) := by decide +kernel
theorem dX6_makeAnew_52 : decode cX6_makeAnew 52 = .ok (.goto (-36), 3) := by decide +kernel
theorem dX6_makeAnew_55 : decode cX6_makeAnew 55 = .ok (.iconst 1, 1) := by decide +kernel
theorem dX6_makeAnew_56 : decode cX6_makeAnew 56 = .ok (.aload_n 0, 1) := by decide +kernel
theorem dX6_makeAnew_57 : decode cX6_makeAnew 57 = .ok (.getfield 20, 3) := by decide +kernel
theorem dX6_makeAnew_60 : decode cX6_makeAnew 60 = .ok (.getfield 196, 3) := by decide +kernel
theorem dX6_makeAnew_63 : decode cX6_makeAnew 63 = .ok (.iadd, 1) := by decide +kernel
theorem dX6_makeAnew_64 : decode cX6_makeAnew 64 = .ok (.istore 4, 2) := by decide +kernel
theorem dX6_makeAnew_66 : decode cX6_makeAnew 66 = .ok (.aload_n 0, 1) := by decide +kernel
theorem dX6_makeAnew_67 : decode cX6_makeAnew 67 = .ok (.getfield 20, 3) := by decide +kernel
theorem dX6_makeAnew_70 : decode cX6_makeAnew 70 = .ok (.iload_n 3, 1) := by decide +kernel
theorem dX6_makeAnew_71 : decode cX6_makeAnew 71 = .ok (.iload 4, 2) := by decide +kernel
theorem dX6_makeAnew_73 : decode cX6_makeAnew 73 = .ok (.isub, 1) := by decide +kernel
theorem dX6_makeAnew_74 : decode cX6_makeAnew 74 = .ok (.iconst 5, 1) := by decide +kernel
theorem dX6_makeAnew_75 : decode cX6_makeAnew 75 = .ok (.idiv, 1) := by decide +kernel
theorem dX6_makeAnew_76 : decode cX6_makeAnew 76 = .ok (.bipush 6, 2) := by decide +kernel
theorem dX6_makeAnew_78 : decode cX6_makeAnew 78 = .ok (.invokestatic 276, 3) := by decide +kernel
theorem dX6_makeAnew_81 : decode cX6_makeAnew 81 = .ok (.putfield 97, 3) := by decide +kernel
theorem dX6_makeAnew_84 : decode cX6_makeAnew 84 = .ok (.aload_n 0, 1) := by decide +kernel
theorem dX6_makeAnew_85 : decode cX6_makeAnew 85 = .ok (.getfield 20, 3) := by decide +kernel
theorem dX6_makeAnew_88 : decode cX6_makeAnew 88 = .ok (.iconst 0, 1) := by decide +kernel
theorem dX6_makeAnew_89 : decode cX6_makeAnew 89 = .ok (.putfield 121, 3) := by decide +kernel
theorem dX6_makeAnew_92 : decode cX6_makeAnew 92 = .ok (.iconst 0, 1) := by decide +kernel
theorem dX6_makeAnew_93 : decode cX6_makeAnew 93 = .ok (.istore 5, 2) := by decide +kernel
theorem dX6_makeAnew_95 : decode cX6_makeAnew 95 = .ok (.iload 5, 2) := by decide +kernel
theorem dX6_makeAnew_97 : decode cX6_makeAnew 97 = .ok (.aload_n 0, 1) := by decide +kernel
theorem dX6_makeAnew_98 : decode cX6_makeAnew 98 = .ok (.getfield 20, 3) := by decide +kernel
theorem dX6_makeAnew_101 : decode cX6_makeAnew 101 = .ok (.getfield 97, 3) := by decide +kernel
theorem dX6_makeAnew_104 : decode cX6_makeAnew 104 = .ok (.if_icmp .ge 110, 3) := by decide +kernel
theorem dX6_makeAnew_107 : decode cX6_makeAnew 107 = .ok (.iload_n 2, 1) := by decide +kernel
theorem dX6_makeAnew_108 : decode cX6_makeAnew 108 = .ok (.iload 4, 2) := by decide +kernel
theorem dX6_makeAnew_110 : decode cX6_makeAnew 110 = .ok (.iadd, 1) := by decide +kernel
theorem dX6_makeAnew_111 : decode cX6_makeAnew 111 = .ok (.iconst 5, 1) := by decide +kernel
theorem dX6_makeAnew_112 : decode cX6_makeAnew 112 = .ok (.iload 5, 2) := by decide +kernel
theorem dX6_makeAnew_114 : decode cX6_makeAnew 114 = .ok (.imul, 1) := by decide +kernel
theorem dX6_makeAnew_115 : decode cX6_makeAnew 115 = .ok (.iadd, 1) := by decide +kernel
theorem dX6_makeAnew_116 : decode cX6_makeAnew 116 = .ok (.istore 6, 2) := by decide +kernel
theorem dX6_makeAnew_118 : decode cX6_makeAnew 118 = .ok (.aload_n 0, 1) := by decide +kernel
theorem dX6_makeAnew_119 : decode cX6_makeAnew 119 = .ok (.getfield 20, 3) := by decide +kernel
theorem dX6_makeAnew_122 : decode cX6_makeAnew 122 = .ok (.getfield 103, 3) := by decide +kernel
theorem dX6_makeAnew_125 : decode cX6_makeAnew 125 = .ok (.iload 5, 2) := by decide +kernel
theorem dX6_makeAnew_127 : decode cX6_makeAnew 127 = .ok (.aload_n 1, 1) := by decide +kernel
theorem dX6_makeAnew_128 : decode cX6_makeAnew 128 = .ok (.iload 6, 2) := by decide +kernel
theorem dX6_makeAnew_130 : decode cX6_makeAnew 130 = .ok (.iconst 1, 1) := by decide +kernel
theorem dX6_makeAnew_131 : decode cX6_makeAnew 131 = .ok (.iadd, 1) := by decide +kernel
theorem dX6_makeAnew_132 : decode cX6_makeAnew 132 = .ok (.iaload, 1) := by decide +kernel
theorem dX6_makeAnew_133 : decode cX6_makeAnew 133 = .ok (.invokestatic 273, 3) := by decide +kernel
theorem dX6_makeAnew_136 : decode cX6_makeAnew 136 = .ok (.iastore, 1) := by decide +kernel
theorem dX6_makeAnew_137 : decode cX6_makeAnew 137 = .ok (.aload_n 0, 1) := by decide +kernel
theorem dX6_makeAnew_138 : decode cX6_makeAnew 138 = .ok (.getfield 27, 3) := by decide +kernel
theorem dX6_makeAnew_141 : decode cX6_makeAnew 141 = .ok (.getfield 106, 3) := by decide +kernel
theorem dX6_makeAnew_144 : decode cX6_makeAnew 144 = .ok (.iload 5, 2) := by decide +kernel
theorem dX6_makeAnew_146 : decode cX6_makeAnew 146 = .ok (.aload_n 1, 1) := by decide +kernel
theorem dX6_makeAnew_147 : decode cX6_makeAnew 147 = .ok (.iload 6, 2) := by decide +kernel
theorem dX6_makeAnew_149 : decode cX6_makeAnew 149 = .ok (.iconst 2, 1) := by decide +kernel
theorem dX6_makeAnew_150 : decode cX6_makeAnew 150 = .ok (.iadd, 1) := by decide +kernel
theorem dX6_makeAnew_151 : decode cX6_makeAnew 151 = .ok (.iaload, 1) := by decide +kernel
theorem dX6_makeAnew_152 : decode cX6_makeAnew 152 = .ok (.bipush 48, 2) := by decide +kernel
theorem dX6_makeAnew_154 : decode cX6_makeAnew 154 = .ok (.isub, 1) := by decide +kernel
theorem dX6_makeAnew_155 : decode cX6_makeAnew 155 = .ok (.iastore, 1) := by decide +kernel
theorem dX6_makeAnew_156 : decode cX6_makeAnew 156 = .ok (.aload_n 0, 1) := by decide +kernel
theorem dX6_makeAnew_157 : decode cX6_makeAnew 157 = .ok (.getfield 20, 3) := by decide +kernel
theorem dX6_makeAnew_160 : decode cX6_makeAnew 160 = .ok (.getfield 109, 3) := by decide +kernel
theorem dX6_makeAnew_163 : decode cX6_makeAnew 163 = .ok (.iload 5, 2) := by decide +kernel
theorem dX6_makeAnew_165 : decode cX6_makeAnew 165 = .ok (.aload_n 1, 1) := by decide +kernel
theorem dX6_makeAnew_166 : decode cX6_makeAnew 166 = .ok (.iload 6, 2) := by decide +kernel
theorem dX6_makeAnew_168 : decode cX6_makeAnew 168 = .ok (.iconst 3, 1) := by decide +kernel
theorem dX6_makeAnew_169 : decode cX6_makeAnew 169 = .ok (.iadd, 1) := by decide +kernel
theorem dX6_makeAnew_170 : decode cX6_makeAnew 170 = .ok (.iaload, 1) := by decide +kernel
theorem dX6_makeAnew_171 : decode cX6_makeAnew 171 = .ok (.bipush 48, 2) := by decide +kernel
theorem dX6_makeAnew_173 : decode cX6_makeAnew 173 = .ok (.isub, 1) := by decide +kernel
theorem dX6_makeAnew_174 : decode cX6_makeAnew 174 = .ok (.iastore, 1) := by decide +kernel
theorem dX6_makeAnew_175 : decode cX6_makeAnew 175 = .ok (.aload_n 0, 1) := by decide +kernel
theorem dX6_makeAnew_176 : decode cX6_makeAnew 176 = .ok (.iload 5, 2) := by decide +kernel
theorem dX6_makeAnew_178 : decode cX6_makeAnew 178 = .ok (.invokevirtual 118, 3) := by decide +kernel
theorem dX6_makeAnew_181 : decode cX6_makeAnew 181 = .ok (.ifCond .eq 27, 3) := by decide +kernel
theorem dX6_makeAnew_184 : decode cX6_makeAnew 184 = .ok (.aload_n 0, 1) := by decide +kernel
theorem dX6_makeAnew_185 : decode cX6_makeAnew 185 = .ok (.getfield 20, 3) := by decide +kernel
theorem dX6_makeAnew_188 : decode cX6_makeAnew 188 = .ok (.dup, 1) := by decide +kernel
theorem dX6_makeAnew_189 : decode cX6_makeAnew 189 = .ok (.getfield 121, 3) := by decide +kernel
theorem dX6_makeAnew_192 : decode cX6_makeAnew 192 = .ok (.aload_n 1, 1) := by decide +kernel
theorem dX6_makeAnew_193 : decode cX6_makeAnew 193 = .ok (.iload 6, 2) := by decide +kernel
theorem dX6_makeAnew_195 : decode cX6_makeAnew 195 = .ok (.iconst 4, 1) := by decide +kernel
theorem dX6_makeAnew_196 : decode cX6_makeAnew 196 = .ok (.iadd, 1) := by decide +kernel
theorem dX6_makeAnew_197 : decode cX6_makeAnew 197 = .ok (.iaload, 1) := by decide +kernel
theorem dX6_makeAnew_198 : decode cX6_makeAnew 198 = .ok (.bipush 48, 2) := by decide +kernel
theorem dX6_makeAnew_200 : decode cX6_makeAnew 200 = .ok (.isub, 1) := by decide +kernel
theorem dX6_makeAnew_201 : decode cX6_makeAnew 201 = .ok (.iload 5, 2) := by decide +kernel
theorem dX6_makeAnew_203 : decode cX6_makeAnew 203 = .ok (.ishl, 1) := by decide +kernel
theorem dX6_makeAnew_204 : decode cX6_makeAnew 204 = .ok (.ior, 1) := by decide +kernel
theorem dX6_makeAnew_205 : decode cX6_makeAnew 205 = .ok (.putfield 121, 3) := by decide +kernel
theorem dX6_makeAnew_208 : decode cX6_makeAnew 208 = .ok (.iinc 5 1, 3) := by decide +kernel
theorem dX6_makeAnew_211 : decode cX6_makeAnew 211 = .ok (.goto (-116), 3) := by decide +kernel
theorem dX6_makeAnew_214 : decode cX6_makeAnew 214 = .ok (.aload_n 0, 1) := by decide +kernel
theorem dX6_makeAnew_215 : decode cX6_makeAnew 215 = .ok (.getfield 27, 3) := by decide +kernel
theorem dX6_makeAnew_218 : decode cX6_makeAnew 218 = .ok (.iconst 0, 1) := by decide +kernel
theorem dX6_makeAnew_219 : decode cX6_makeAnew 219 = .ok (.putfield 115, 3) := by decide +kernel
theorem dX6_makeAnew_222 : decode cX6_makeAnew 222 = .ok (.aload_n 0, 1) := by decide +kernel
theorem dX6_makeAnew_223 : decode cX6_makeAnew 223 = .ok (.iconst 0, 1) := by decide +kernel
theorem dX6_makeAnew_224 : decode cX6_makeAnew 224 = .ok (.putfield 60, 3) := by decide +kernel
theorem dX6_makeAnew_227 : decode cX6_makeAnew 227 = .ok (.aload_n 0, 1) := by decide +kernel
theorem dX6_makeAnew_228 : decode cX6_makeAnew 228 = .ok (.getfield 34, 3) := by decide +kernel
theorem dX6_makeAnew_231 : decode cX6_makeAnew 231 = .ok (.iconst 0, 1) := by decide +kernel
theorem dX6_makeAnew_232 : decode cX6_makeAnew 232 = .ok (.putfield 206, 3) := by decide +kernel
theorem dX6_makeAnew_235 : decode cX6_makeAnew 235 = .ok (.return_, 1) := by decide +kernel
set_option maxRecDepth 20000 in
theorem ggX6_takePairs_X5_faultOfCells : GoodIn wsX6_takePairs wsX5_faultOfCells := goodIn_r _ [10, 11, 12, 13, 14, 15, 9, 16, 17, 39, 40, 41, 42] (by decide +kernel) (by decide +kernel)
set_option maxRecDepth 20000 in
theorem gX6_takePairs_X5_faultOfCells : GoodIn wsX6_takePairs (wsV RX6 78 RX5 yX5_faultOfCells wsX5_faultOfCells) := goodIn_app (goodIn_of _ (by decide +kernel)) ggX6_takePairs_X5_faultOfCells
set_option maxRecDepth 20000 in
theorem ggX6_takePairs_X6_faulted : GoodIn wsX6_takePairs wsX6_faulted := goodIn_r _ [22, 23, 43, 44, 45, 46, 47, 48, 49, 50, 51, 52, 53] (by decide +kernel) (by decide +kernel)
set_option maxRecDepth 20000 in
theorem gX6_takePairs_X6_faulted : GoodIn wsX6_takePairs (wsV RX6 82 RX6 yX6_faulted wsX6_faulted) := goodIn_app (goodIn_of _ (by decide +kernel)) ggX6_takePairs_X6_faulted
set_option maxRecDepth 20000 in
theorem ggX6_takePairs_X6_hasMine : GoodIn wsX6_takePairs wsX6_hasMine := goodIn_r _ [27, 28, 29, 43, 44, 45, 46, 47, 48, 49, 50, 51, 52, 53, 57, 58, 59, 60, 61, 62] (by decide +kernel) (by decide +kernel)
set_option maxRecDepth 20000 in
theorem gX6_takePairs_X6_hasMine : GoodIn wsX6_takePairs (wsV RX6 137 RX6 yX6_hasMine wsX6_hasMine) := goodIn_app (goodIn_of _ (by decide +kernel)) ggX6_takePairs_X6_hasMine
set_option maxRecDepth 20000 in
theorem ggX6_takePairs_X6_isGallery : GoodIn wsX6_takePairs wsX6_isGallery := goodIn_r _ [33, 28, 29, 43, 44, 45, 46, 47, 48, 49, 50, 51, 52, 53, 57, 58, 59, 60, 61, 62] (by decide +kernel) (by decide +kernel)
set_option maxRecDepth 20000 in
theorem gX6_takePairs_X6_isGallery : GoodIn wsX6_takePairs (wsV RX6 100 RX6 yX6_isGallery wsX6_isGallery) := goodIn_app (goodIn_of _ (by decide +kernel)) ggX6_takePairs_X6_isGallery
set_option maxRecDepth 20000 in
theorem ggX6_takePairs_X6_isWord : GoodIn wsX6_takePairs wsX6_isWord := goodIn_r _ [37, 28, 38, 43, 44, 45, 46, 47, 48, 49, 50, 51, 52, 53, 57, 58, 59, 60, 61, 62] (by decide +kernel) (by decide +kernel)
set_option maxRecDepth 20000 in
theorem gX6_takePairs_X6_isWord : GoodIn wsX6_takePairs (wsV RX6 124 RX6 yX6_isWord wsX6_isWord) := goodIn_app (goodIn_of _ (by decide +kernel)) ggX6_takePairs_X6_isWord
theorem dX6_takePairs_0 : decode cX6_takePairs 0 = .ok (.aload_n 1, 1) := by decide +kernel
theorem dX6_takePairs_1 : decode cX6_takePairs 1 = .ok (.iload_n 2, 1) := by decide +kernel
theorem dX6_takePairs_2 : decode cX6_takePairs 2 = .ok (.iload_n 3, 1) := by decide +kernel
theorem dX6_takePairs_3 : decode cX6_takePairs 3 = .ok (.iconst 2, 1) := by decide +kernel
theorem dX6_takePairs_4 : decode cX6_takePairs 4 = .ok (.iload 4, 2) := by decide +kernel
theorem dX6_takePairs_6 : decode cX6_takePairs 6 = .ok (.imul, 1) := by decide +kernel
theorem dX6_takePairs_7 : decode cX6_takePairs 7 = .ok (.invokevirtual 78, 3) := by decide +kernel
theorem dX6_takePairs_10 : decode cX6_takePairs 10 = .ok (.istore 5, 2) := by decide +kernel
theorem dX6_takePairs_12 : decode cX6_takePairs 12 = .ok (.iload 5, 2) := by decide +kernel
theorem dX6_takePairs_14 : decode cX6_takePairs 14 = .ok (.ifCond .eq 10, 3) := by decide +kernel
theorem dX6_takePairs_17 : decode cX6_takePairs 17 = .ok (.aload_n 0, 1) := by decide +kernel
theorem dX6_takePairs_18 : decode cX6_takePairs 18 = .ok (.iload 5, 2) := by decide +kernel
theorem dX6_takePairs_20 : decode cX6_takePairs 20 = .ok (.invokevirtual 82, 3) := by decide +kernel
theorem dX6_takePairs_23 : decode cX6_takePairs 23 = .ok (.ireturn, 1) := by decide +kernel
theorem dX6_takePairs_24 : decode cX6_takePairs 24 = .ok (.aload_n 0, 1) := by decide +kernel
theorem dX6_takePairs_25 : decode cX6_takePairs 25 = .ok (.invokevirtual 137, 3) := by decide +kernel
theorem dX6_takePairs_28 : decode cX6_takePairs 28 = .ok (.ifCond .ne 6, 3) := by decide +kernel
theorem dX6_takePairs_31 : decode cX6_takePairs 31 = .ok (.bipush (-3), 2) := by decide +kernel
theorem dX6_takePairs_33 : decode cX6_takePairs 33 = .ok (.ireturn, 1) := by decide +kernel
theorem dX6_takePairs_34 : decode cX6_takePairs 34 = .ok (.iconst 0, 1) := by decide +kernel
theorem dX6_takePairs_35 : decode cX6_takePairs 35 = .ok (.istore 6, 2) := by decide +kernel
theorem dX6_takePairs_37 : decode cX6_takePairs 37 = .ok (.iload 6, 2) := by decide +kernel
theorem dX6_takePairs_39 : decode cX6_takePairs 39 = .ok (.iload 4, 2) := by decide +kernel
theorem dX6_takePairs_41 : decode cX6_takePairs 41 = .ok (.if_icmp .ge 81, 3) := by decide +kernel
theorem dX6_takePairs_44 : decode cX6_takePairs 44 = .ok (.aload_n 1, 1) := by decide +kernel
theorem dX6_takePairs_45 : decode cX6_takePairs 45 = .ok (.getfield 86, 3) := by decide +kernel
theorem dX6_takePairs_48 : decode cX6_takePairs 48 = .ok (.iload_n 3, 1) := by decide +kernel
theorem dX6_takePairs_49 : decode cX6_takePairs 49 = .ok (.iconst 2, 1) := by decide +kernel
theorem dX6_takePairs_50 : decode cX6_takePairs 50 = .ok (.iload 6, 2) := by decide +kernel
theorem dX6_takePairs_52 : decode cX6_takePairs 52 = .ok (.imul, 1) := by decide +kernel
theorem dX6_takePairs_53 : decode cX6_takePairs 53 = .ok (.iadd, 1) := by decide +kernel
theorem dX6_takePairs_54 : decode cX6_takePairs 54 = .ok (.iaload, 1) := by decide +kernel
theorem dX6_takePairs_55 : decode cX6_takePairs 55 = .ok (.istore 7, 2) := by decide +kernel
theorem dX6_takePairs_57 : decode cX6_takePairs 57 = .ok (.aload_n 1, 1) := by decide +kernel
theorem dX6_takePairs_58 : decode cX6_takePairs 58 = .ok (.getfield 86, 3) := by decide +kernel
theorem dX6_takePairs_61 : decode cX6_takePairs 61 = .ok (.iload_n 3, 1) := by decide +kernel
theorem dX6_takePairs_62 : decode cX6_takePairs 62 = .ok (.iconst 2, 1) := by decide +kernel
theorem dX6_takePairs_63 : decode cX6_takePairs 63 = .ok (.iload 6, 2) := by decide +kernel
theorem dX6_takePairs_65 : decode cX6_takePairs 65 = .ok (.imul, 1) := by decide +kernel
theorem dX6_takePairs_66 : decode cX6_takePairs 66 = .ok (.iadd, 1) := by decide +kernel
theorem dX6_takePairs_67 : decode cX6_takePairs 67 = .ok (.iconst 1, 1) := by decide +kernel
theorem dX6_takePairs_68 : decode cX6_takePairs 68 = .ok (.iadd, 1) := by decide +kernel
theorem dX6_takePairs_69 : decode cX6_takePairs 69 = .ok (.iaload, 1) := by decide +kernel
theorem dX6_takePairs_70 : decode cX6_takePairs 70 = .ok (.istore 8, 2) := by decide +kernel
theorem dX6_takePairs_72 : decode cX6_takePairs 72 = .ok (.aload_n 0, 1) := by decide +kernel
theorem dX6_takePairs_73 : decode cX6_takePairs 73 = .ok (.iload 7, 2) := by decide +kernel
theorem dX6_takePairs_75 : decode cX6_takePairs 75 = .ok (.invokevirtual 100, 3) := by decide +kernel
theorem dX6_takePairs_78 : decode cX6_takePairs 78 = .ok (.ifCond .eq 12, 3) := by decide +kernel
theorem dX6_takePairs_81 : decode cX6_takePairs 81 = .ok (.aload_n 0, 1) := by decide +kernel
theorem dX6_takePairs_82 : decode cX6_takePairs 82 = .ok (.iload 8, 2) := by decide +kernel
theorem dX6_takePairs_84 : decode cX6_takePairs 84 = .ok (.invokevirtual 124, 3) := by decide +kernel
theorem dX6_takePairs_87 : decode cX6_takePairs 87 = .ok (.ifCond .ne 5, 3) := by decide +kernel
theorem dX6_takePairs_90 : decode cX6_takePairs 90 = .ok (.iconst (-1), 1) := by decide +kernel
theorem dX6_takePairs_91 : decode cX6_takePairs 91 = .ok (.ireturn, 1) := by decide +kernel
theorem dX6_takePairs_92 : decode cX6_takePairs 92 = .ok (.aload_n 0, 1) := by decide +kernel
theorem dX6_takePairs_93 : decode cX6_takePairs 93 = .ok (.getfield 41, 3) := by decide +kernel
theorem dX6_takePairs_96 : decode cX6_takePairs 96 = .ok (.getfield 167, 3) := by decide +kernel
theorem dX6_takePairs_99 : decode cX6_takePairs 99 = .ok (.iload 6, 2) := by decide +kernel
theorem dX6_takePairs_101 : decode cX6_takePairs 101 = .ok (.iload 7, 2) := by decide +kernel
theorem dX6_takePairs_103 : decode cX6_takePairs 103 = .ok (.iastore, 1) := by decide +kernel
theorem dX6_takePairs_104 : decode cX6_takePairs 104 = .ok (.aload_n 0, 1) := by decide +kernel
theorem dX6_takePairs_105 : decode cX6_takePairs 105 = .ok (.getfield 41, 3) := by decide +kernel
theorem dX6_takePairs_108 : decode cX6_takePairs 108 = .ok (.getfield 169, 3) := by decide +kernel
theorem dX6_takePairs_111 : decode cX6_takePairs 111 = .ok (.iload 6, 2) := by decide +kernel
theorem dX6_takePairs_113 : decode cX6_takePairs 113 = .ok (.iload 8, 2) := by decide +kernel
theorem dX6_takePairs_115 : decode cX6_takePairs 115 = .ok (.iastore, 1) := by decide +kernel
theorem dX6_takePairs_116 : decode cX6_takePairs 116 = .ok (.iinc 6 1, 3) := by decide +kernel
theorem dX6_takePairs_119 : decode cX6_takePairs 119 = .ok (.goto (-82), 3) := by decide +kernel
theorem dX6_takePairs_122 : decode cX6_takePairs 122 = .ok (.aload_n 0, 1) := by decide +kernel
theorem dX6_takePairs_123 : decode cX6_takePairs 123 = .ok (.getfield 41, 3) := by decide +kernel
theorem dX6_takePairs_126 : decode cX6_takePairs 126 = .ok (.iload 4, 2) := by decide +kernel
theorem dX6_takePairs_128 : decode cX6_takePairs 128 = .ok (.putfield 164, 3) := by decide +kernel
theorem dX6_takePairs_131 : decode cX6_takePairs 131 = .ok (.iconst 0, 1) := by decide +kernel
theorem dX6_takePairs_132 : decode cX6_takePairs 132 = .ok (.ireturn, 1) := by decide +kernel
set_option maxRecDepth 20000 in
theorem ggX6_dropsWithDoors_X0_becomeLike : GoodIn wsX6_dropsWithDoors wsX0_becomeLike := goodIn_r _ [12, 13, 14, 15, 16, 17, 18, 84, 85] (by decide +kernel) (by decide +kernel)
set_option maxRecDepth 20000 in
theorem gX6_dropsWithDoors_X0_becomeLike : GoodIn wsX6_dropsWithDoors (wsV RX6 160 RX0 yX0_becomeLike wsX0_becomeLike) := goodIn_app (goodIn_of _ (by decide +kernel)) ggX6_dropsWithDoors_X0_becomeLike
set_option maxRecDepth 20000 in
theorem ggX6_dropsWithDoors_X2_breathe : GoodIn wsX6_dropsWithDoors wsX2_breathe := goodIn_r _ [23, 24, 25, 26, 27, 28, 29, 30, 31, 32, 33, 34, 35, 22, 36, 37, 38, 39, 40, 41, 42, 43, 44, 45, 46, 47, 48, 49, 50, 51, 52, 11, 53, 18, 54, 55, 56, 57, 58, 59, 60, 61, 62, 84, 85, 86, 87, 88, 89, 90, 91] (by decide +kernel) (by decide +kernel)
set_option maxRecDepth 20000 in
theorem gX6_dropsWithDoors_X2_breathe : GoodIn wsX6_dropsWithDoors (wsV RX6 133 RX2 yX2_breathe wsX2_breathe) := goodIn_app (goodIn_of _ (by decide +kernel)) ggX6_dropsWithDoors_X2_breathe
set_option maxRecDepth 20000 in
theorem ggX6_dropsWithDoors_J6_bitCount_0f7a4 : GoodIn wsX6_dropsWithDoors wsJ6_bitCount_0f7a4 := goodIn_r _ [66, 67, 68, 69] (by decide +kernel) (by decide +kernel)
set_option maxRecDepth 20000 in
theorem gX6_dropsWithDoors_J6_bitCount_0f7a4 : GoodIn wsX6_dropsWithDoors (va_wsS RX6 148 yJ6_bitCount_0f7a4 wsJ6_bitCount_0f7a4) := goodIn_app (goodIn_of _ (by decide +kernel)) ggX6_dropsWithDoors_J6_bitCount_0f7a4
theorem dX6_dropsWithDoors_0 : decode cX6_dropsWithDoors 0 = .ok (.aload_n 0, 1) := by decide +kernel
theorem dX6_dropsWithDoors_1 : decode cX6_dropsWithDoors 1 = .ok (.getfield 45, 3) := by decide +kernel
theorem dX6_dropsWithDoors_4 : decode cX6_dropsWithDoors 4 = .ok (.iconst 0, 1) := by decide +kernel
theorem dX6_dropsWithDoors_5 : decode cX6_dropsWithDoors 5 = .ok (.aaload, 1) := by decide +kernel
theorem dX6_dropsWithDoors_6 : decode cX6_dropsWithDoors 6 = .ok (.astore_n 2, 1) := by decide +kernel
theorem dX6_dropsWithDoors_7 : decode cX6_dropsWithDoors 7 = .ok (.aload_n 2, 1) := by decide +kernel
theorem dX6_dropsWithDoors_8 : decode cX6_dropsWithDoors 8 = .ok (.aload_n 0, 1) := by decide +kernel
theorem dX6_dropsWithDoors_9 : decode cX6_dropsWithDoors 9 = .ok (.getfield 27, 3) := by decide +kernel
theorem dX6_dropsWithDoors_12 : decode cX6_dropsWithDoors 12 = .ok (.invokevirtual 160, 3) := by decide +kernel
theorem dX6_dropsWithDoors_15 : decode cX6_dropsWithDoors 15 = .ok (.iconst 0, 1) := by decide +kernel
theorem dX6_dropsWithDoors_16 : decode cX6_dropsWithDoors 16 = .ok (.istore_n 3, 1) := by decide +kernel
theorem dX6_dropsWithDoors_17 : decode cX6_dropsWithDoors 17 = .ok (.iconst 0, 1) := by decide +kernel
theorem dX6_dropsWithDoors_18 : decode cX6_dropsWithDoors 18 = .ok (.istore 4, 2) := by decide +kernel
theorem dX6_dropsWithDoors_20 : decode cX6_dropsWithDoors 20 = .ok (.iload 4, 2) := by decide +kernel
theorem dX6_dropsWithDoors_22 : decode cX6_dropsWithDoors 22 = .ok (.aload_n 0, 1) := by decide +kernel
theorem dX6_dropsWithDoors_23 : decode cX6_dropsWithDoors 23 = .ok (.getfield 41, 3) := by decide +kernel
theorem dX6_dropsWithDoors_26 : decode cX6_dropsWithDoors 26 = .ok (.getfield 164, 3) := by decide +kernel
theorem dX6_dropsWithDoors_29 : decode cX6_dropsWithDoors 29 = .ok (.if_icmp .ge 41, 3) := by decide +kernel
theorem dX6_dropsWithDoors_32 : decode cX6_dropsWithDoors 32 = .ok (.iload_n 3, 1) := by decide +kernel
theorem dX6_dropsWithDoors_33 : decode cX6_dropsWithDoors 33 = .ok (.aload_n 0, 1) := by decide +kernel
theorem dX6_dropsWithDoors_34 : decode cX6_dropsWithDoors 34 = .ok (.getfield 20, 3) := by decide +kernel
theorem dX6_dropsWithDoors_37 : decode cX6_dropsWithDoors 37 = .ok (.aload_n 2, 1) := by decide +kernel
theorem dX6_dropsWithDoors_38 : decode cX6_dropsWithDoors 38 = .ok (.iload_n 1, 1) := by decide +kernel
theorem dX6_dropsWithDoors_39 : decode cX6_dropsWithDoors 39 = .ok (.aload_n 0, 1) := by decide +kernel
theorem dX6_dropsWithDoors_40 : decode cX6_dropsWithDoors 40 = .ok (.getfield 41, 3) := by decide +kernel
theorem dX6_dropsWithDoors_43 : decode cX6_dropsWithDoors 43 = .ok (.getfield 167, 3) := by decide +kernel
theorem dX6_dropsWithDoors_46 : decode cX6_dropsWithDoors 46 = .ok (.iload 4, 2) := by decide +kernel
theorem dX6_dropsWithDoors_48 : decode cX6_dropsWithDoors 48 = .ok (.iaload, 1) := by decide +kernel
theorem dX6_dropsWithDoors_49 : decode cX6_dropsWithDoors 49 = .ok (.aload_n 0, 1) := by decide +kernel
theorem dX6_dropsWithDoors_50 : decode cX6_dropsWithDoors 50 = .ok (.getfield 41, 3) := by decide +kernel
theorem dX6_dropsWithDoors_53 : decode cX6_dropsWithDoors 53 = .ok (.getfield 169, 3) := by decide +kernel
theorem dX6_dropsWithDoors_56 : decode cX6_dropsWithDoors 56 = .ok (.iload 4, 2) := by decide +kernel
theorem dX6_dropsWithDoors_58 : decode cX6_dropsWithDoors 58 = .ok (.iaload, 1) := by decide +kernel
theorem dX6_dropsWithDoors_59 : decode cX6_dropsWithDoors 59 = .ok (.invokevirtual 133, 3) := by decide +kernel
theorem dX6_dropsWithDoors_62 : decode cX6_dropsWithDoors 62 = .ok (.ior, 1) := by decide +kernel
theorem dX6_dropsWithDoors_63 : decode cX6_dropsWithDoors 63 = .ok (.istore_n 3, 1) := by decide +kernel
theorem dX6_dropsWithDoors_64 : decode cX6_dropsWithDoors 64 = .ok (.iinc 4 1, 3) := by decide +kernel
theorem dX6_dropsWithDoors_67 : decode cX6_dropsWithDoors 67 = .ok (.goto (-47), 3) := by decide +kernel
theorem dX6_dropsWithDoors_70 : decode cX6_dropsWithDoors 70 = .ok (.iload_n 3, 1) := by decide +kernel
theorem dX6_dropsWithDoors_71 : decode cX6_dropsWithDoors 71 = .ok (.invokestatic 148, 3) := by decide +kernel
theorem dX6_dropsWithDoors_74 : decode cX6_dropsWithDoors 74 = .ok (.ireturn, 1) := by decide +kernel
set_option maxRecDepth 20000 in
theorem ggX6_airBehind_X0_becomeLike : GoodIn wsX6_airBehind wsX0_becomeLike := goodIn_r _ [9, 10, 11, 12, 13, 14, 15, 77, 78] (by decide +kernel) (by decide +kernel)
set_option maxRecDepth 20000 in
theorem gX6_airBehind_X0_becomeLike : GoodIn wsX6_airBehind (wsV RX6 160 RX0 yX0_becomeLike wsX0_becomeLike) := goodIn_app (goodIn_of _ (by decide +kernel)) ggX6_airBehind_X0_becomeLike
set_option maxRecDepth 20000 in
theorem ggX6_airBehind_X2_breathe : GoodIn wsX6_airBehind wsX2_breathe := goodIn_r _ [20, 21, 22, 23, 24, 25, 26, 27, 28, 29, 30, 31, 32, 19, 33, 34, 35, 36, 37, 38, 39, 40, 41, 42, 43, 44, 45, 46, 47, 48, 49, 8, 50, 15, 51, 52, 53, 54, 55, 56, 57, 58, 59, 77, 78, 71, 72, 73, 74, 75, 76] (by decide +kernel) (by decide +kernel)
set_option maxRecDepth 20000 in
theorem gX6_airBehind_X2_breathe : GoodIn wsX6_airBehind (wsV RX6 133 RX2 yX2_breathe wsX2_breathe) := goodIn_app (goodIn_of _ (by decide +kernel)) ggX6_airBehind_X2_breathe
theorem dX6_airBehind_0 : decode cX6_airBehind 0 = .ok (.aload_n 0, 1) := by decide +kernel
theorem dX6_airBehind_1 : decode cX6_airBehind 1 = .ok (.getfield 45, 3) := by decide +kernel
theorem dX6_airBehind_4 : decode cX6_airBehind 4 = .ok (.iconst 0, 1) := by decide +kernel
theorem dX6_airBehind_5 : decode cX6_airBehind 5 = .ok (.aaload, 1) := by decide +kernel
theorem dX6_airBehind_6 : decode cX6_airBehind 6 = .ok (.astore_n 3, 1) := by decide +kernel
theorem dX6_airBehind_7 : decode cX6_airBehind 7 = .ok (.aload_n 3, 1) := by decide +kernel
theorem dX6_airBehind_8 : decode cX6_airBehind 8 = .ok (.aload_n 0, 1) := by decide +kernel
theorem dX6_airBehind_9 : decode cX6_airBehind 9 = .ok (.getfield 27, 3) := by decide +kernel
theorem dX6_airBehind_12 : decode cX6_airBehind 12 = .ok (.invokevirtual 160, 3) := by decide +kernel
theorem dX6_airBehind_15 : decode cX6_airBehind 15 = .ok (.aload_n 0, 1) := by decide +kernel
theorem dX6_airBehind_16 : decode cX6_airBehind 16 = .ok (.getfield 20, 3) := by decide +kernel
theorem dX6_airBehind_19 : decode cX6_airBehind 19 = .ok (.aload_n 3, 1) := by decide +kernel
theorem dX6_airBehind_20 : decode cX6_airBehind 20 = .ok (.aload_n 0, 1) := by decide +kernel
theorem dX6_airBehind_21 : decode cX6_airBehind 21 = .ok (.getfield 20, 3) := by decide +kernel
theorem dX6_airBehind_24 : decode cX6_airBehind 24 = .ok (.getfield 121, 3) := by decide +kernel
theorem dX6_airBehind_27 : decode cX6_airBehind 27 = .ok (.iload_n 1, 1) := by decide +kernel
theorem dX6_airBehind_28 : decode cX6_airBehind 28 = .ok (.iload_n 2, 1) := by decide +kernel
theorem dX6_airBehind_29 : decode cX6_airBehind 29 = .ok (.invokevirtual 133, 3) := by decide +kernel
theorem dX6_airBehind_32 : decode cX6_airBehind 32 = .ok (.pop, 1) := by decide +kernel
theorem dX6_airBehind_33 : decode cX6_airBehind 33 = .ok (.aload_n 3, 1) := by decide +kernel
theorem dX6_airBehind_34 : decode cX6_airBehind 34 = .ok (.areturn, 1) := by decide +kernel
theorem dX6_foulTogether_0 : decode cX6_foulTogether 0 = .ok (.iconst 0, 1) := by decide +kernel
theorem dX6_foulTogether_1 : decode cX6_foulTogether 1 = .ok (.istore_n 2, 1) := by decide +kernel
theorem dX6_foulTogether_2 : decode cX6_foulTogether 2 = .ok (.iconst 0, 1) := by decide +kernel
theorem dX6_foulTogether_3 : decode cX6_foulTogether 3 = .ok (.istore_n 3, 1) := by decide +kernel
theorem dX6_foulTogether_4 : decode cX6_foulTogether 4 = .ok (.iload_n 3, 1) := by decide +kernel
theorem dX6_foulTogether_5 : decode cX6_foulTogether 5 = .ok (.aload_n 0, 1) := by decide +kernel
theorem dX6_foulTogether_6 : decode cX6_foulTogether 6 = .ok (.getfield 20, 3) := by decide +kernel
theorem dX6_foulTogether_9 : decode cX6_foulTogether 9 = .ok (.getfield 97, 3) := by decide +kernel
theorem dX6_foulTogether_12 : decode cX6_foulTogether 12 = .ok (.if_icmp .ge 18, 3) := by decide +kernel
theorem dX6_foulTogether_15 : decode cX6_foulTogether 15 = .ok (.iload_n 2, 1) := by decide +kernel
theorem dX6_foulTogether_16 : decode cX6_foulTogether 16 = .ok (.aload_n 1, 1) := by decide +kernel
theorem dX6_foulTogether_17 : decode cX6_foulTogether 17 = .ok (.getfield 106, 3) := by decide +kernel
theorem dX6_foulTogether_20 : decode cX6_foulTogether 20 = .ok (.iload_n 3, 1) := by decide +kernel
theorem dX6_foulTogether_21 : decode cX6_foulTogether 21 = .ok (.iaload, 1) := by decide +kernel
theorem dX6_foulTogether_22 : decode cX6_foulTogether 22 = .ok (.iadd, 1) := by decide +kernel
theorem dX6_foulTogether_23 : decode cX6_foulTogether 23 = .ok (.istore_n 2, 1) := by decide +kernel
theorem dX6_foulTogether_24 : decode cX6_foulTogether 24 = .ok (.iinc 3 1, 3) := by decide +kernel
theorem dX6_foulTogether_27 : decode cX6_foulTogether 27 = .ok (.goto (-23), 3) := by decide +kernel
theorem dX6_foulTogether_30 : decode cX6_foulTogether 30 = .ok (.iload_n 2, 1) := by decide +kernel
theorem dX6_foulTogether_31 : decode cX6_foulTogether 31 = .ok (.ireturn, 1) := by decide +kernel
theorem dX6_isAsTold_0 : decode cX6_isAsTold 0 = .ok (.iconst 0, 1) := by decide +kernel
theorem dX6_isAsTold_1 : decode cX6_isAsTold 1 = .ok (.istore 4, 2) := by decide +kernel
theorem dX6_isAsTold_3 : decode cX6_isAsTold 3 = .ok (.iload 4, 2) := by decide +kernel
theorem dX6_isAsTold_5 : decode cX6_isAsTold 5 = .ok (.aload_n 0, 1) := by decide +kernel
theorem dX6_isAsTold_6 : decode cX6_isAsTold 6 = .ok (.getfield 20, 3) := by decide +kernel
theorem dX6_isAsTold_9 : decode cX6_isAsTold 9 = .ok (.getfield 97, 3) := by decide +kernel
theorem dX6_isAsTold_12 : decode cX6_isAsTold 12 = .ok (.if_icmp .ge 27, 3) := by decide +kernel
theorem dX6_isAsTold_15 : decode cX6_isAsTold 15 = .ok (.aload_n 1, 1) := by decide +kernel
theorem dX6_isAsTold_16 : decode cX6_isAsTold 16 = .ok (.iload_n 2, 1) := by decide +kernel
theorem dX6_isAsTold_17 : decode cX6_isAsTold 17 = .ok (.iload 4, 2) := by decide +kernel
theorem dX6_isAsTold_19 : decode cX6_isAsTold 19 = .ok (.iadd, 1) := by decide +kernel
theorem dX6_isAsTold_20 : decode cX6_isAsTold 20 = .ok (.iaload, 1) := by decide +kernel
theorem dX6_isAsTold_21 : decode cX6_isAsTold 21 = .ok (.aload_n 3, 1) := by decide +kernel
theorem dX6_isAsTold_22 : decode cX6_isAsTold 22 = .ok (.getfield 106, 3) := by decide +kernel
theorem dX6_isAsTold_25 : decode cX6_isAsTold 25 = .ok (.iload 4, 2) := by decide +kernel
theorem dX6_isAsTold_27 : decode cX6_isAsTold 27 = .ok (.iaload, 1) := by decide +kernel
theorem dX6_isAsTold_28 : decode cX6_isAsTold 28 = .ok (.if_icmp .eq 5, 3) := by decide +kernel
theorem dX6_isAsTold_31 : decode cX6_isAsTold 31 = .ok (.iconst 0, 1) := by decide +kernel
theorem dX6_isAsTold_32 : decode cX6_isAsTold 32 = .ok (.ireturn, 1) := by decide +kernel
theorem dX6_isAsTold_33 : decode cX6_isAsTold 33 = .ok (.iinc 4 1, 3) := by decide +kernel
theorem dX6_isAsTold_36 : decode cX6_isAsTold 36 = .ok (.goto (-33), 3) := by decide +kernel
theorem dX6_isAsTold_39 : decode cX6_isAsTold 39 = .ok (.iconst 1, 1) := by decide +kernel
theorem dX6_isAsTold_40 : decode cX6_isAsTold 40 = .ok (.ireturn, 1) := by decide +kernel
set_option maxRecDepth 20000 in
theorem ggX6_endsOrder_X0_becomeLike : GoodIn wsX6_endsOrder wsX0_becomeLike := goodIn_r _ [9, 10, 11, 12, 13, 14, 15, 71, 72] (by decide +kernel) (by decide +kernel)
set_option maxRecDepth 20000 in
theorem gX6_endsOrder_X0_becomeLike : GoodIn wsX6_endsOrder (wsV RX6 160 RX0 yX0_becomeLike wsX0_becomeLike) := goodIn_app (goodIn_of _ (by decide +kernel)) ggX6_endsOrder_X0_becomeLike
set_option maxRecDepth 20000 in
theorem ggX6_endsOrder_X2_breathe : GoodIn wsX6_endsOrder wsX2_breathe := goodIn_r _ [20, 21, 22, 23, 24, 25, 26, 27, 28, 29, 30, 31, 32, 19, 33, 34, 35, 36, 37, 38, 39, 40, 41, 42, 43, 44, 45, 46, 47, 48, 49, 8, 50, 15, 51, 52, 53, 54, 55, 56, 57, 58, 59, 71, 72, 65, 66, 67, 68, 69, 70] (by decide +kernel) (by decide +kernel)
set_option maxRecDepth 20000 in
theorem gX6_endsOrder_X2_breathe : GoodIn wsX6_endsOrder (wsV RX6 133 RX2 yX2_breathe wsX2_breathe) := goodIn_app (goodIn_of _ (by decide +kernel)) ggX6_endsOrder_X2_breathe
set_option maxRecDepth 20000 in
theorem ggX6_endsOrder_X6_endsOrder : GoodIn wsX6_endsOrder wsX6_endsOrder := goodIn_r _ [0, 1, 2, 3, 4, 5, 6, 7, 8, 9, 10, 11, 12, 13, 14, 15, 16, 17, 18, 19, 20, 21, 22, 23, 24, 25, 26, 27, 28, 29, 30, 31, 32, 33, 34, 35, 36, 37, 38, 39, 40, 41, 42, 43, 44, 45, 46, 47, 48, 49, 50, 51, 52, 53, 54, 55, 56, 57, 58, 59, 60, 61, 62, 63, 64, 65, 66, 67, 68, 69, 70, 71, 72] (by decide +kernel) (by decide +kernel)
set_option maxRecDepth 20000 in
theorem gX6_endsOrder_X6_endsOrder : GoodIn wsX6_endsOrder (va_wsS RX6 176 yX6_endsOrder wsX6_endsOrder) := goodIn_app (goodIn_of _ (by decide +kernel)) ggX6_endsOrder_X6_endsOrder
theorem dX6_endsOrder_0 : decode cX6_endsOrder 0 = .ok (.iload 4, 2) := by decide +kernel
theorem dX6_endsOrder_2 : decode cX6_endsOrder 2 = .ok (.aload_n 1, 1) := by decide +kernel
theorem dX6_endsOrder_3 : decode cX6_endsOrder 3 = .ok (.getfield 164, 3) := by decide +kernel
theorem dX6_endsOrder_6 : decode cX6_endsOrder 6 = .ok (.if_icmp .ge 10, 3) := by decide +kernel
theorem dX6_endsOrder_9 : decode cX6_endsOrder 9 = .ok (.iload 4, 2) := by decide +kernel
theorem dX6_endsOrder_11 : decode cX6_endsOrder 11 = .ok (.bipush 6, 2) := by decide +kernel
theorem dX6_endsOrder_13 : decode cX6_endsOrder 13 = .ok (.if_icmp .lt 5, 3) := by decide +kernel
theorem dX6_endsOrder_16 : decode cX6_endsOrder 16 = .ok (.iconst 1, 1) := by decide +kernel
theorem dX6_endsOrder_17 : decode cX6_endsOrder 17 = .ok (.ireturn, 1) := by decide +kernel
theorem dX6_endsOrder_18 : decode cX6_endsOrder 18 = .ok (.iconst 0, 1) := by decide +kernel
theorem dX6_endsOrder_19 : decode cX6_endsOrder 19 = .ok (.istore 6, 2) := by decide +kernel
theorem dX6_endsOrder_21 : decode cX6_endsOrder 21 = .ok (.iload 6, 2) := by decide +kernel
theorem dX6_endsOrder_23 : decode cX6_endsOrder 23 = .ok (.aload_n 1, 1) := by decide +kernel
theorem dX6_endsOrder_24 : decode cX6_endsOrder 24 = .ok (.getfield 164, 3) := by decide +kernel
theorem dX6_endsOrder_27 : decode cX6_endsOrder 27 = .ok (.if_icmp .ge 92, 3) := by decide +kernel
theorem dX6_endsOrder_30 : decode cX6_endsOrder 30 = .ok (.iload 5, 2) := by decide +kernel
theorem dX6_endsOrder_32 : decode cX6_endsOrder 32 = .ok (.iload 6, 2) := by decide +kernel
theorem dX6_endsOrder_34 : decode cX6_endsOrder 34 = .ok (.ishr, 1) := by decide +kernel
theorem dX6_endsOrder_35 : decode cX6_endsOrder 35 = .ok (.iconst 1, 1) := by decide +kernel
theorem dX6_endsOrder_36 : decode cX6_endsOrder 36 = .ok (.iand, 1) := by decide +kernel
theorem dX6_endsOrder_37 : decode cX6_endsOrder 37 = .ok (.ifCond .ne 76, 3) := by decide +kernel
theorem dX6_endsOrder_40 : decode cX6_endsOrder 40 = .ok (.aload_n 2, 1) := by decide +kernel
theorem dX6_endsOrder_41 : decode cX6_endsOrder 41 = .ok (.iload 4, 2) := by decide +kernel
theorem dX6_endsOrder_43 : decode cX6_endsOrder 43 = .ok (.iconst 1, 1) := by decide +kernel
theorem dX6_endsOrder_44 : decode cX6_endsOrder 44 = .ok (.iadd, 1) := by decide +kernel
theorem dX6_endsOrder_45 : decode cX6_endsOrder 45 = .ok (.aaload, 1) := by decide +kernel
theorem dX6_endsOrder_46 : decode cX6_endsOrder 46 = .ok (.astore 7, 2) := by decide +kernel
theorem dX6_endsOrder_48 : decode cX6_endsOrder 48 = .ok (.aload 7, 2) := by decide +kernel
theorem dX6_endsOrder_50 : decode cX6_endsOrder 50 = .ok (.aload_n 2, 1) := by decide +kernel
theorem dX6_endsOrder_51 : decode cX6_endsOrder 51 = .ok (.iload 4, 2) := by decide +kernel
theorem dX6_endsOrder_53 : decode cX6_endsOrder 53 = .ok (.aaload, 1) := by decide +kernel
theorem dX6_endsOrder_54 : decode cX6_endsOrder 54 = .ok (.invokevirtual 160, 3) := by decide +kernel
theorem dX6_endsOrder_57 : decode cX6_endsOrder 57 = .ok (.aload_n 3, 1) := by decide +kernel
theorem dX6_endsOrder_58 : decode cX6_endsOrder 58 = .ok (.iload 4, 2) := by decide +kernel
theorem dX6_endsOrder_60 : decode cX6_endsOrder 60 = .ok (.iload 6, 2) := by decide +kernel
theorem dX6_endsOrder_62 : decode cX6_endsOrder 62 = .ok (.iastore, 1) := by decide +kernel
theorem dX6_endsOrder_63 : decode cX6_endsOrder 63 = .ok (.aload_n 0, 1) := by decide +kernel
theorem dX6_endsOrder_64 : decode cX6_endsOrder 64 = .ok (.aload 7, 2) := by decide +kernel
theorem dX6_endsOrder_66 : decode cX6_endsOrder 66 = .ok (.aload_n 0, 1) := by decide +kernel
theorem dX6_endsOrder_67 : decode cX6_endsOrder 67 = .ok (.getfield 121, 3) := by decide +kernel
theorem dX6_endsOrder_70 : decode cX6_endsOrder 70 = .ok (.aload_n 1, 1) := by decide +kernel
theorem dX6_endsOrder_71 : decode cX6_endsOrder 71 = .ok (.getfield 167, 3) := by decide +kernel
theorem dX6_endsOrder_74 : decode cX6_endsOrder 74 = .ok (.iload 6, 2) := by decide +kernel
theorem dX6_endsOrder_76 : decode cX6_endsOrder 76 = .ok (.iaload, 1) := by decide +kernel
theorem dX6_endsOrder_77 : decode cX6_endsOrder 77 = .ok (.aload_n 1, 1) := by decide +kernel
theorem dX6_endsOrder_78 : decode cX6_endsOrder 78 = .ok (.getfield 169, 3) := by decide +kernel
theorem dX6_endsOrder_81 : decode cX6_endsOrder 81 = .ok (.iload 6, 2) := by decide +kernel
theorem dX6_endsOrder_83 : decode cX6_endsOrder 83 = .ok (.iaload, 1) := by decide +kernel
theorem dX6_endsOrder_84 : decode cX6_endsOrder 84 = .ok (.invokevirtual 133, 3) := by decide +kernel
theorem dX6_endsOrder_87 : decode cX6_endsOrder 87 = .ok (.ifCond .ne 26, 3) := by decide +kernel
theorem dX6_endsOrder_90 : decode cX6_endsOrder 90 = .ok (.aload_n 0, 1) := by decide +kernel
theorem dX6_endsOrder_91 : decode cX6_endsOrder 91 = .ok (.aload_n 1, 1) := by decide +kernel
theorem dX6_endsOrder_92 : decode cX6_endsOrder 92 = .ok (.aload_n 2, 1) := by decide +kernel
theorem dX6_endsOrder_93 : decode cX6_endsOrder 93 = .ok (.aload_n 3, 1) := by decide +kernel
theorem dX6_endsOrder_94 : decode cX6_endsOrder 94 = .ok (.iload 4, 2) := by decide +kernel
theorem dX6_endsOrder_96 : decode cX6_endsOrder 96 = .ok (.iconst 1, 1) := by decide +kernel
theorem dX6_endsOrder_97 : decode cX6_endsOrder 97 = .ok (.iadd, 1) := by decide +kernel
theorem dX6_endsOrder_98 : decode cX6_endsOrder 98 = .ok (.iload 5, 2) := by decide +kernel
theorem dX6_endsOrder_100 : decode cX6_endsOrder 100 = .ok (.iconst 1, 1) := by decide +kernel
theorem dX6_endsOrder_101 : decode cX6_endsOrder 101 = .ok (.iload 6, 2) := by decide +kernel
theorem dX6_endsOrder_103 : decode cX6_endsOrder 103 = .ok (.ishl, 1) := by decide +kernel
theorem dX6_endsOrder_104 : decode cX6_endsOrder 104 = .ok (.ior, 1) := by decide +kernel
theorem dX6_endsOrder_105 : decode cX6_endsOrder 105 = .ok (.invokestatic 176, 3) := by decide +kernel
theorem dX6_endsOrder_108 : decode cX6_endsOrder 108 = .ok (.ifCond .eq 5, 3) := by decide +kernel
theorem dX6_endsOrder_111 : decode cX6_endsOrder 111 = .ok (.iconst 1, 1) := by decide +kernel
theorem dX6_endsOrder_112 : decode cX6_endsOrder 112 = .ok (.ireturn, 1) := by decide +kernel
theorem dX6_endsOrder_113 : decode cX6_endsOrder 113 = .ok (.iinc 6 1, 3) := by decide +kernel
theorem dX6_endsOrder_116 : decode cX6_endsOrder 116 = .ok (.goto (-95), 3) := by decide +kernel
theorem dX6_endsOrder_119 : decode cX6_endsOrder 119 = .ok (.iconst 0, 1) := by decide +kernel
theorem dX6_endsOrder_120 : decode cX6_endsOrder 120 = .ok (.ireturn, 1) := by decide +kernel
set_option maxRecDepth 20000 in
theorem ggX6_seatFrom_X4_keep : GoodIn wsX6_seatFrom wsX4_keep := goodIn_r _ [9, 10, 11, 12, 13, 14, 15, 16, 35, 36, 37] (by decide +kernel) (by decide +kernel)
set_option maxRecDepth 20000 in
theorem gX6_seatFrom_X4_keep : GoodIn wsX6_seatFrom (wsV RX6 281 RX4 yX4_keep wsX4_keep) := goodIn_app (goodIn_of _ (by decide +kernel)) ggX6_seatFrom_X4_keep
set_option maxRecDepth 20000 in
theorem ggX6_seatFrom_X2_bears : GoodIn wsX6_seatFrom wsX2_bears := goodIn_r _ [21, 22, 23, 24, 25, 26, 29, 30, 31, 32, 33, 34] (by decide +kernel) (by decide +kernel)
set_option maxRecDepth 20000 in
theorem gX6_seatFrom_X2_bears : GoodIn wsX6_seatFrom (wsV RX6 112 RX2 yX2_bears wsX2_bears) := goodIn_app (goodIn_of _ (by decide +kernel)) ggX6_seatFrom_X2_bears
set_option maxRecDepth 20000 in
theorem ggX6_seatFrom_X6_seatFrom : GoodIn wsX6_seatFrom wsX6_seatFrom := goodIn_r _ [0, 1, 2, 3, 4, 5, 6, 7, 8, 9, 10, 11, 12, 13, 14, 15, 16, 17, 18, 19, 20, 21, 22, 23, 24, 25, 26, 27, 28, 29, 30, 31, 32, 33, 34, 35, 36, 37, 38, 39] (by decide +kernel) (by decide +kernel)
set_option maxRecDepth 20000 in
theorem gX6_seatFrom_X6_seatFrom : GoodIn wsX6_seatFrom (va_wsS RX6 189 yX6_seatFrom wsX6_seatFrom) := goodIn_app (goodIn_of _ (by decide +kernel)) ggX6_seatFrom_X6_seatFrom
theorem dX6_seatFrom_0 : decode cX6_seatFrom 0 = .ok (.iload 5, 2) := by decide +kernel
theorem dX6_seatFrom_2 : decode cX6_seatFrom 2 = .ok (.aload_n 0, 1) := by decide +kernel
theorem dX6_seatFrom_3 : decode cX6_seatFrom 3 = .ok (.getfield 97, 3) := by decide +kernel
theorem dX6_seatFrom_6 : decode cX6_seatFrom 6 = .ok (.iadd, 1) := by decide +kernel
theorem dX6_seatFrom_7 : decode cX6_seatFrom 7 = .ok (.iload_n 3, 1) := by decide +kernel
theorem dX6_seatFrom_8 : decode cX6_seatFrom 8 = .ok (.isub, 1) := by decide +kernel
theorem dX6_seatFrom_9 : decode cX6_seatFrom 9 = .ok (.aload_n 2, 1) := by decide +kernel
theorem dX6_seatFrom_10 : decode cX6_seatFrom 10 = .ok (.getfield 186, 3) := by decide +kernel
theorem dX6_seatFrom_13 : decode cX6_seatFrom 13 = .ok (.if_icmp .gt 4, 3) := by decide +kernel
theorem dX6_seatFrom_16 : decode cX6_seatFrom 16 = .ok (.return_, 1) := by decide +kernel
theorem dX6_seatFrom_17 : decode cX6_seatFrom 17 = .ok (.iload_n 3, 1) := by decide +kernel
theorem dX6_seatFrom_18 : decode cX6_seatFrom 18 = .ok (.aload_n 0, 1) := by decide +kernel
theorem dX6_seatFrom_19 : decode cX6_seatFrom 19 = .ok (.getfield 97, 3) := by decide +kernel
theorem dX6_seatFrom_22 : decode cX6_seatFrom 22 = .ok (.if_icmp .ge 9, 3) := by decide +kernel
theorem dX6_seatFrom_25 : decode cX6_seatFrom 25 = .ok (.iload_n 3, 1) := by decide +kernel
theorem dX6_seatFrom_26 : decode cX6_seatFrom 26 = .ok (.bipush 6, 2) := by decide +kernel
theorem dX6_seatFrom_28 : decode cX6_seatFrom 28 = .ok (.if_icmp .lt 10, 3) := by decide +kernel
theorem dX6_seatFrom_31 : decode cX6_seatFrom 31 = .ok (.aload_n 2, 1) := by decide +kernel
theorem dX6_seatFrom_32 : decode cX6_seatFrom 32 = .ok (.iload 5, 2) := by decide +kernel
theorem dX6_seatFrom_34 : decode cX6_seatFrom 34 = .ok (.invokevirtual 281, 3) := by decide +kernel
theorem dX6_seatFrom_37 : decode cX6_seatFrom 37 = .ok (.return_, 1) := by decide +kernel
theorem dX6_seatFrom_38 : decode cX6_seatFrom 38 = .ok (.iconst 0, 1) := by decide +kernel
theorem dX6_seatFrom_39 : decode cX6_seatFrom 39 = .ok (.istore 6, 2) := by decide +kernel
theorem dX6_seatFrom_41 : decode cX6_seatFrom 41 = .ok (.iload 6, 2) := by decide +kernel
theorem dX6_seatFrom_43 : decode cX6_seatFrom 43 = .ok (.aload_n 0, 1) := by decide +kernel
theorem dX6_seatFrom_44 : decode cX6_seatFrom 44 = .ok (.getfield 97, 3) := by decide +kernel
theorem dX6_seatFrom_47 : decode cX6_seatFrom 47 = .ok (.if_icmp .ge 70, 3) := by decide +kernel
theorem dX6_seatFrom_50 : decode cX6_seatFrom 50 = .ok (.iload 4, 2) := by decide +kernel
theorem dX6_seatFrom_52 : decode cX6_seatFrom 52 = .ok (.iload 6, 2) := by decide +kernel
theorem dX6_seatFrom_54 : decode cX6_seatFrom 54 = .ok (.ishr, 1) := by decide +kernel
theorem dX6_seatFrom_55 : decode cX6_seatFrom 55 = .ok (.iconst 1, 1) := by decide +kernel
theorem dX6_seatFrom_56 : decode cX6_seatFrom 56 = .ok (.iand, 1) := by decide +kernel
theorem dX6_seatFrom_57 : decode cX6_seatFrom 57 = .ok (.ifCond .ne 54, 3) := by decide +kernel
theorem dX6_seatFrom_60 : decode cX6_seatFrom 60 = .ok (.aload_n 2, 1) := by decide +kernel
theorem dX6_seatFrom_61 : decode cX6_seatFrom 61 = .ok (.getfield 285, 3) := by decide +kernel
theorem dX6_seatFrom_64 : decode cX6_seatFrom 64 = .ok (.iload_n 3, 1) := by decide +kernel
theorem dX6_seatFrom_65 : decode cX6_seatFrom 65 = .ok (.iload 6, 2) := by decide +kernel
theorem dX6_seatFrom_67 : decode cX6_seatFrom 67 = .ok (.iastore, 1) := by decide +kernel
theorem dX6_seatFrom_68 : decode cX6_seatFrom 68 = .ok (.aload_n 1, 1) := by decide +kernel
theorem dX6_seatFrom_69 : decode cX6_seatFrom 69 = .ok (.getfield 106, 3) := by decide +kernel
theorem dX6_seatFrom_72 : decode cX6_seatFrom 72 = .ok (.iload_n 3, 1) := by decide +kernel
theorem dX6_seatFrom_73 : decode cX6_seatFrom 73 = .ok (.iaload, 1) := by decide +kernel
theorem dX6_seatFrom_74 : decode cX6_seatFrom 74 = .ok (.aload_n 0, 1) := by decide +kernel
theorem dX6_seatFrom_75 : decode cX6_seatFrom 75 = .ok (.iload 6, 2) := by decide +kernel
theorem dX6_seatFrom_77 : decode cX6_seatFrom 77 = .ok (.invokevirtual 112, 3) := by decide +kernel
theorem dX6_seatFrom_80 : decode cX6_seatFrom 80 = .ok (.if_icmp .gt 7, 3) := by decide +kernel
theorem dX6_seatFrom_83 : decode cX6_seatFrom 83 = .ok (.iconst 1, 1) := by decide +kernel
theorem dX6_seatFrom_84 : decode cX6_seatFrom 84 = .ok (.goto 4, 3) := by decide +kernel
theorem dX6_seatFrom_87 : decode cX6_seatFrom 87 = .ok (.iconst 0, 1) := by decide +kernel
theorem dX6_seatFrom_88 : decode cX6_seatFrom 88 = .ok (.istore 7, 2) := by decide +kernel
theorem dX6_seatFrom_90 : decode cX6_seatFrom 90 = .ok (.aload_n 0, 1) := by decide +kernel
theorem dX6_seatFrom_91 : decode cX6_seatFrom 91 = .ok (.aload_n 1, 1) := by decide +kernel
theorem dX6_seatFrom_92 : decode cX6_seatFrom 92 = .ok (.aload_n 2, 1) := by decide +kernel
theorem dX6_seatFrom_93 : decode cX6_seatFrom 93 = .ok (.iload_n 3, 1) := by decide +kernel
theorem dX6_seatFrom_94 : decode cX6_seatFrom 94 = .ok (.iconst 1, 1) := by decide +kernel
theorem dX6_seatFrom_95 : decode cX6_seatFrom 95 = .ok (.iadd, 1) := by decide +kernel
theorem dX6_seatFrom_96 : decode cX6_seatFrom 96 = .ok (.iload 4, 2) := by decide +kernel
theorem dX6_seatFrom_98 : decode cX6_seatFrom 98 = .ok (.iconst 1, 1) := by decide +kernel
theorem dX6_seatFrom_99 : decode cX6_seatFrom 99 = .ok (.iload 6, 2) := by decide +kernel
theorem dX6_seatFrom_101 : decode cX6_seatFrom 101 = .ok (.ishl, 1) := by decide +kernel
theorem dX6_seatFrom_102 : decode cX6_seatFrom 102 = .ok (.ior, 1) := by decide +kernel
theorem dX6_seatFrom_103 : decode cX6_seatFrom 103 = .ok (.iload 5, 2) := by decide +kernel
theorem dX6_seatFrom_105 : decode cX6_seatFrom 105 = .ok (.iload 7, 2) := by decide +kernel
theorem dX6_seatFrom_107 : decode cX6_seatFrom 107 = .ok (.iadd, 1) := by decide +kernel
theorem dX6_seatFrom_108 : decode cX6_seatFrom 108 = .ok (.invokestatic 189, 3) := by decide +kernel
theorem dX6_seatFrom_111 : decode cX6_seatFrom 111 = .ok (.iinc 6 1, 3) := by decide +kernel
theorem dX6_seatFrom_114 : decode cX6_seatFrom 114 = .ok (.goto (-73), 3) := by decide +kernel
theorem dX6_seatFrom_117 : decode cX6_seatFrom 117 = .ok (.return_, 1) := by decide +kernel
theorem dX6_bearing_0 : decode cX6_bearing 0 = .ok (.iload_n 0, 1) := by decide +kernel
theorem dX6_bearing_1 : decode cX6_bearing 1 = .ok (.lookupswitch 35 #[(1, 31), (2, 27)], 27) := by decide +kernel
theorem dX6_bearing_28 : decode cX6_bearing 28 = .ok (.iconst 2, 1) := by decide +kernel
theorem dX6_bearing_29 : decode cX6_bearing 29 = .ok (.iload_n 1, 1) := by decide +kernel
theorem dX6_bearing_30 : decode cX6_bearing 30 = .ok (.imul, 1) := by decide +kernel
theorem dX6_bearing_31 : decode cX6_bearing 31 = .ok (.ireturn, 1) := by decide +kernel
theorem dX6_bearing_32 : decode cX6_bearing 32 = .ok (.iload_n 1, 1) := by decide +kernel
theorem dX6_bearing_33 : decode cX6_bearing 33 = .ok (.iconst 1, 1) := by decide +kernel
theorem dX6_bearing_34 : decode cX6_bearing 34 = .ok (.isub, 1) := by decide +kernel
theorem dX6_bearing_35 : decode cX6_bearing 35 = .ok (.ireturn, 1) := by decide +kernel
theorem dX6_bearing_36 : decode cX6_bearing 36 = .ok (.iload_n 1, 1) := by decide +kernel
theorem dX6_bearing_37 : decode cX6_bearing 37 = .ok (.ireturn, 1) := by decide +kernel
theorem dX6_cutToLane_0 : decode cX6_cutToLane 0 = .ok (.iload_n 1, 1) := by decide +kernel
theorem dX6_cutToLane_1 : decode cX6_cutToLane 1 = .ok (.lookupswitch 33 #[(0, 27), (1, 30)], 27) := by decide +kernel
theorem dX6_cutToLane_28 : decode cX6_cutToLane 28 = .ok (.iload_n 0, 1) := by decide +kernel
theorem dX6_cutToLane_29 : decode cX6_cutToLane 29 = .ok (.i2b, 1) := by decide +kernel
theorem dX6_cutToLane_30 : decode cX6_cutToLane 30 = .ok (.ireturn, 1) := by decide +kernel
theorem dX6_cutToLane_31 : decode cX6_cutToLane 31 = .ok (.iload_n 0, 1) := by decide +kernel
theorem dX6_cutToLane_32 : decode cX6_cutToLane 32 = .ok (.i2s, 1) := by decide +kernel
theorem dX6_cutToLane_33 : decode cX6_cutToLane 33 = .ok (.ireturn, 1) := by decide +kernel
theorem dX6_cutToLane_34 : decode cX6_cutToLane 34 = .ok (.iload_n 0, 1) := by decide +kernel
theorem dX6_cutToLane_35 : decode cX6_cutToLane 35 = .ok (.ireturn, 1) := by decide +kernel
theorem dX6_commonDivisor_0 : decode cX6_commonDivisor 0 = .ok (.iload_n 1, 1) := by decide +kernel
theorem dX6_commonDivisor_1 : decode cX6_commonDivisor 1 = .ok (.istore_n 2, 1) := by decide +kernel
theorem dX6_commonDivisor_2 : decode cX6_commonDivisor 2 = .ok (.iload_n 2, 1) := by decide +kernel
theorem dX6_commonDivisor_3 : decode cX6_commonDivisor 3 = .ok (.iconst 1, 1) := by decide +kernel
theorem dX6_commonDivisor_4 : decode cX6_commonDivisor 4 = .ok (.if_icmp .le 23, 3) := by decide +kernel
theorem dX6_commonDivisor_7 : decode cX6_commonDivisor 7 = .ok (.iload_n 0, 1) := by decide +kernel
theorem dX6_commonDivisor_8 : decode cX6_commonDivisor 8 = .ok (.iload_n 2, 1) := by decide +kernel
theorem dX6_commonDivisor_9 : decode cX6_commonDivisor 9 = .ok (.irem, 1) := by decide +kernel
theorem dX6_commonDivisor_10 : decode cX6_commonDivisor 10 = .ok (.ifCond .ne 11, 3) := by decide +kernel
theorem dX6_commonDivisor_13 : decode cX6_commonDivisor 13 = .ok (.iload_n 1, 1) := by decide +kernel
theorem dX6_commonDivisor_14 : decode cX6_commonDivisor 14 = .ok (.iload_n 2, 1) := by decide +kernel
theorem dX6_commonDivisor_15 : decode cX6_commonDivisor 15 = .ok (.irem, 1) := by decide +kernel
theorem dX6_commonDivisor_16 : decode cX6_commonDivisor 16 = .ok (.ifCond .ne 5, 3) := by decide +kernel
theorem dX6_commonDivisor_19 : decode cX6_commonDivisor 19 = .ok (.iload_n 2, 1) := by decide +kernel
theorem dX6_commonDivisor_20 : decode cX6_commonDivisor 20 = .ok (.ireturn, 1) := by decide +kernel
theorem dX6_commonDivisor_21 : decode cX6_commonDivisor 21 = .ok (.iinc 2 (-1), 3) := by decide +kernel
theorem dX6_commonDivisor_24 : decode cX6_commonDivisor 24 = .ok (.goto (-22), 3) := by decide +kernel
theorem dX6_commonDivisor_27 : decode cX6_commonDivisor 27 = .ok (.iconst 1, 1) := by decide +kernel
theorem dX6_commonDivisor_28 : decode cX6_commonDivisor 28 = .ok (.ireturn, 1) := by decide +kernel
theorem dX6_leave_0 : decode cX6_leave 0 = .ok (.aload_n 0, 1) := by decide +kernel
theorem dX6_leave_1 : decode cX6_leave 1 = .ok (.bipush 31, 2) := by decide +kernel
theorem dX6_leave_3 : decode cX6_leave 3 = .ok (.aload_n 0, 1) := by decide +kernel
theorem dX6_leave_4 : decode cX6_leave 4 = .ok (.getfield 64, 3) := by decide +kernel
theorem dX6_leave_7 : decode cX6_leave 7 = .ok (.imul, 1) := by decide +kernel
theorem dX6_leave_8 : decode cX6_leave 8 = .ok (.iload_n 1, 1) := by decide +kernel
theorem dX6_leave_9 : decode cX6_leave 9 = .ok (.iadd, 1) := by decide +kernel
theorem dX6_leave_10 : decode cX6_leave 10 = .ok (.putfield 64, 3) := by decide +kernel
theorem dX6_leave_13 : decode cX6_leave 13 = .ok (.return_, 1) := by decide +kernel
set_option maxRecDepth 20000 in
theorem ggX6_greyBody_X6_leave : GoodIn wsX6_greyBody wsX6_leave := goodIn_r _ [7, 8, 9, 10, 11, 12, 13, 14, 15, 16, 17, 18, 19] (by decide +kernel) (by decide +kernel)
set_option maxRecDepth 20000 in
theorem gX6_greyBody_X6_leave : GoodIn wsX6_greyBody (wsV RX6 288 RX6 yX6_leave wsX6_leave) := goodIn_app (goodIn_of _ (by decide +kernel)) ggX6_greyBody_X6_leave
theorem dX6_greyBody_0 : decode cX6_greyBody 0 = .ok (.aload_n 0, 1) := by decide +kernel
theorem dX6_greyBody_1 : decode cX6_greyBody 1 = .ok (.iconst 1, 1) := by decide +kernel
theorem dX6_greyBody_2 : decode cX6_greyBody 2 = .ok (.invokevirtual 288, 3) := by decide +kernel
theorem dX6_greyBody_5 : decode cX6_greyBody 5 = .ok (.aload_n 0, 1) := by decide +kernel
theorem dX6_greyBody_6 : decode cX6_greyBody 6 = .ok (.getfield 20, 3) := by decide +kernel
theorem dX6_greyBody_9 : decode cX6_greyBody 9 = .ok (.getfield 109, 3) := by decide +kernel
theorem dX6_greyBody_12 : decode cX6_greyBody 12 = .ok (.iload_n 1, 1) := by decide +kernel
theorem dX6_greyBody_13 : decode cX6_greyBody 13 = .ok (.iaload, 1) := by decide +kernel
theorem dX6_greyBody_14 : decode cX6_greyBody 14 = .ok (.ireturn, 1) := by decide +kernel
set_option maxRecDepth 20000 in
theorem ggX6_greenBody_X6_leave : GoodIn wsX6_greenBody wsX6_leave := goodIn_r _ [5, 6, 13, 14, 15, 16, 17, 18, 19, 20, 21, 22, 23] (by decide +kernel) (by decide +kernel)
set_option maxRecDepth 20000 in
theorem gX6_greenBody_X6_leave : GoodIn wsX6_greenBody (wsV RX6 288 RX6 yX6_leave wsX6_leave) := goodIn_app (goodIn_of _ (by decide +kernel)) ggX6_greenBody_X6_leave
set_option maxRecDepth 20000 in
theorem ggX6_greenBody_X6_greyBody : GoodIn wsX6_greenBody wsX6_greyBody := goodIn_r _ [10, 11, 12, 1, 2, 3, 4, 5, 6, 13, 14, 15, 16, 17, 18, 19, 20, 21, 22, 23, 24, 25, 26, 27, 28, 29] (by decide +kernel) (by decide +kernel)
set_option maxRecDepth 20000 in
theorem gX6_greenBody_X6_greyBody : GoodIn wsX6_greenBody (wsV RX6 253 RX6 yX6_greyBody wsX6_greyBody) := goodIn_app (goodIn_of _ (by decide +kernel)) ggX6_greenBody_X6_greyBody
theorem dX6_greenBody_0 : decode cX6_greenBody 0 = .ok (.aload_n 0, 1) := by decide +kernel
theorem dX6_greenBody_1 : decode cX6_greenBody 1 = .ok (.iconst 2, 1) := by decide +kernel
theorem dX6_greenBody_2 : decode cX6_greenBody 2 = .ok (.invokevirtual 288, 3) := by decide +kernel
theorem dX6_greenBody_5 : decode cX6_greenBody 5 = .ok (.aload_n 0, 1) := by decide +kernel
theorem dX6_greenBody_6 : decode cX6_greenBody 6 = .ok (.iload_n 1, 1) := by decide +kernel
theorem dX6_greenBody_7 : decode cX6_greenBody 7 = .ok (.invokevirtual 253, 3) := by decide +kernel
theorem dX6_greenBody_10 : decode cX6_greenBody 10 = .ok (.bipush 100, 2) := by decide +kernel
theorem dX6_greenBody_12 : decode cX6_greenBody 12 = .ok (.iadd, 1) := by decide +kernel
theorem dX6_greenBody_13 : decode cX6_greenBody 13 = .ok (.ireturn, 1) := by decide +kernel
set_option maxRecDepth 20000 in
theorem ggX6_brightBody_X6_leave : GoodIn wsX6_brightBody wsX6_leave := goodIn_r _ [5, 6, 17, 18, 19, 20, 21, 22, 23, 24, 25, 26, 27] (by decide +kernel) (by decide +kernel)
set_option maxRecDepth 20000 in
theorem gX6_brightBody_X6_leave : GoodIn wsX6_brightBody (wsV RX6 288 RX6 yX6_leave wsX6_leave) := goodIn_app (goodIn_of _ (by decide +kernel)) ggX6_brightBody_X6_leave
set_option maxRecDepth 20000 in
theorem ggX6_brightBody_X6_greenBody : GoodIn wsX6_brightBody wsX6_greenBody := goodIn_r _ [10, 1, 2, 3, 4, 5, 6, 11, 12, 13, 14, 15, 16, 17, 18, 19, 20, 21, 22, 23, 24, 25, 26, 27, 28, 29, 30, 31, 32, 33] (by decide +kernel) (by decide +kernel)
set_option maxRecDepth 20000 in
theorem gX6_brightBody_X6_greenBody : GoodIn wsX6_brightBody (wsV RX6 250 RX6 yX6_greenBody wsX6_greenBody) := goodIn_app (goodIn_of _ (by decide +kernel)) ggX6_brightBody_X6_greenBody
set_option maxRecDepth 20000 in
theorem ggX6_brightBody_X6_greyBody : GoodIn wsX6_brightBody wsX6_greyBody := goodIn_r _ [14, 15, 16, 1, 2, 3, 4, 5, 6, 17, 18, 19, 20, 21, 22, 23, 24, 25, 26, 27, 28, 29, 30, 31, 32, 33] (by decide +kernel) (by decide +kernel)
set_option maxRecDepth 20000 in
theorem gX6_brightBody_X6_greyBody : GoodIn wsX6_brightBody (wsV RX6 253 RX6 yX6_greyBody wsX6_greyBody) := goodIn_app (goodIn_of _ (by decide +kernel)) ggX6_brightBody_X6_greyBody
theorem dX6_brightBody_0 : decode cX6_brightBody 0 = .ok (.aload_n 0, 1) := by decide +kernel
theorem dX6_brightBody_1 : decode cX6_brightBody 1 = .ok (.iconst 3, 1) := by decide +kernel
theorem dX6_brightBody_2 : decode cX6_brightBody 2 = .ok (.invokevirtual 288, 3) := by decide +kernel
theorem dX6_brightBody_5 : decode cX6_brightBody 5 = .ok (.aload_n 0, 1) := by decide +kernel
theorem dX6_brightBody_6 : decode cX6_brightBody 6 = .ok (.iload_n 1, 1) := by decide +kernel
theorem dX6_brightBody_7 : decode cX6_brightBody 7 = .ok (.invokevirtual 250, 3) := by decide +kernel
theorem dX6_brightBody_10 : decode cX6_brightBody 10 = .ok (.aload_n 0, 1) := by decide +kernel
theorem dX6_brightBody_11 : decode cX6_brightBody 11 = .ok (.iload_n 1, 1) := by decide +kernel
theorem dX6_brightBody_12 : decode cX6_brightBody 12 = .ok (.invokevirtual 253, 3) := by decide +kernel
theorem dX6_brightBody_15 : decode cX6_brightBody 15 = .ok (.iadd, 1) := by decide +kernel
theorem dX6_brightBody_16 : decode cX6_brightBody 16 = .ok (.ireturn, 1) := by decide +kernel
set_option maxRecDepth 20000 in
theorem ggX6_lentSignature_X6_leave : GoodIn wsX6_lentSignature wsX6_leave := goodIn_r _ [5, 6, 7, 8, 9, 10, 11, 12, 13, 14, 15, 16, 17] (by decide +kernel) (by decide +kernel)
set_option maxRecDepth 20000 in
theorem gX6_lentSignature_X6_leave : GoodIn wsX6_lentSignature (wsV RX6 288 RX6 yX6_leave wsX6_leave) := goodIn_app (goodIn_of _ (by decide +kernel)) ggX6_lentSignature_X6_leave
theorem dX6_lentSignature_0 : decode cX6_lentSignature 0 = .ok (.aload_n 0, 1) := by decide +kernel
theorem dX6_lentSignature_1 : decode cX6_lentSignature 1 = .ok (.iconst 4, 1) := by decide +kernel
theorem dX6_lentSignature_2 : decode cX6_lentSignature 2 = .ok (.invokevirtual 288, 3) := by decide +kernel
theorem dX6_lentSignature_5 : decode cX6_lentSignature 5 = .ok (.iload_n 1, 1) := by decide +kernel
theorem dX6_lentSignature_6 : decode cX6_lentSignature 6 = .ok (.ireturn, 1) := by decide +kernel
set_option maxRecDepth 20000 in
theorem ggX6_brightSignature_X6_leave : GoodIn wsX6_brightSignature wsX6_leave := goodIn_r _ [5, 6, 7, 8, 9, 10, 11, 12, 13, 14, 15, 16, 17] (by decide +kernel) (by decide +kernel)
set_option maxRecDepth 20000 in
theorem gX6_brightSignature_X6_leave : GoodIn wsX6_brightSignature (wsV RX6 288 RX6 yX6_leave wsX6_leave) := goodIn_app (goodIn_of _ (by decide +kernel)) ggX6_brightSignature_X6_leave
theorem dX6_brightSignature_0 : decode cX6_brightSignature 0 = .ok (.aload_n 0, 1) := by decide +kernel
theorem dX6_brightSignature_1 : decode cX6_brightSignature 1 = .ok (.iconst 5, 1) := by decide +kernel
theorem dX6_brightSignature_2 : decode cX6_brightSignature 2 = .ok (.invokevirtual 288, 3) := by decide +kernel
theorem dX6_brightSignature_5 : decode cX6_brightSignature 5 = .ok (.bipush 50, 2) := by decide +kernel
theorem dX6_brightSignature_7 : decode cX6_brightSignature 7 = .ok (.ireturn, 1) := by decide +kernel
end
section
theorem dX7_init_0 : decode cX7_init 0 = .ok (.aload_n 0, 1) := by decide +kernel
theorem dX7_init_1 : decode cX7_init 1 = .ok (.invokespecial 1, 3) := by decide +kernel
theorem dX7_init_4 : decode cX7_init 4 = .ok (.aload_n 0, 1) := by decide +kernel
theorem dX7_init_5 : decode cX7_init 5 = .ok (.iconst 4, 1) := by decide +kernel
theorem dX7_init_6 : decode cX7_init 6 = .ok (.newarray .int, 2) := by decide +kernel
theorem dX7_init_8 : decode cX7_init 8 = .ok (.dup, 1) := by decide +kernel
theorem dX7_init_9 : decode cX7_init 9 = .ok (.iconst 0, 1) := by decide +kernel
theorem dX7_init_10 : decode cX7_init 10 = .ok (.bipush (-9), 2) := by decide +kernel
theorem dX7_init_12 : decode cX7_init 12 = .ok (.iastore, 1) := by decide +kernel
theorem dX7_init_13 : decode cX7_init 13 = .ok (.dup, 1) := by decide +kernel
theorem dX7_init_14 : decode cX7_init 14 = .ok (.iconst 1, 1) := by decide +kernel
theorem dX7_init_15 : decode cX7_init 15 = .ok (.bipush (-9), 2) := by decide +kernel
theorem dX7_init_17 : decode cX7_init 17 = .ok (.iastore, 1) := by decide +kernel
theorem dX7_init_18 : decode cX7_init 18 = .ok (.dup, 1) := by decide +kernel
theorem dX7_init_19 : decode cX7_init 19 = .ok (.iconst 2, 1) := by decide +kernel
theorem dX7_init_20 : decode cX7_init 20 = .ok (.bipush (-9), 2) := by decide +kernel
theorem dX7_init_22 : decode cX7_init 22 = .ok (.iastore, 1) := by decide +kernel
theorem dX7_init_23 : decode cX7_init 23 = .ok (.dup, 1) := by decide +kernel
theorem dX7_init_24 : decode cX7_init 24 = .ok (.iconst 3, 1) := by decide +kernel
theorem dX7_init_25 : decode cX7_init 25 = .ok (.bipush (-9), 2) := by decide +kernel
theorem dX7_init_27 : decode cX7_init 27 = .ok (.iastore, 1) := by decide +kernel
theorem dX7_init_28 : decode cX7_init 28 = .ok (.putfield 9, 3) := by decide +kernel
theorem dX7_init_31 : decode cX7_init 31 = .ok (.aload_n 0, 1) := by decide +kernel
theorem dX7_init_32 : decode cX7_init 32 = .ok (.iconst 4, 1) := by decide +kernel
theorem dX7_init_33 : decode cX7_init 33 = .ok (.newarray .int, 2) := by decide +kernel
theorem dX7_init_35 : decode cX7_init 35 = .ok (.putfield 13, 3) := by decide +kernel
theorem dX7_init_38 : decode cX7_init 38 = .ok (.aload_n 0, 1) := by decide +kernel
theorem dX7_init_39 : decode cX7_init 39 = .ok (.sipush 240, 3) := by decide +kernel
theorem dX7_init_42 : decode cX7_init 42 = .ok (.newarray .int, 2) := by decide +kernel
theorem dX7_init_44 : decode cX7_init 44 = .ok (.putfield 16, 3) := by decide +kernel
theorem dX7_init_47 : decode cX7_init 47 = .ok (.aload_n 0, 1) := by decide +kernel
theorem dX7_init_48 : decode cX7_init 48 = .ok (.iconst 4, 1) := by decide +kernel
theorem dX7_init_49 : decode cX7_init 49 = .ok (.newarray .int, 2) := by decide +kernel
theorem dX7_init_51 : decode cX7_init 51 = .ok (.putfield 19, 3) := by decide +kernel
theorem dX7_init_54 : decode cX7_init 54 = .ok (.aload_n 0, 1) := by decide +kernel
theorem dX7_init_55 : decode cX7_init 55 = .ok (.bipush 6, 2) := by decide +kernel
theorem dX7_init_57 : decode cX7_init 57 = .ok (.newarray .int, 2) := by decide +kernel
theorem dX7_init_59 : decode cX7_init 59 = .ok (.putfield 22, 3) := by decide +kernel
theorem dX7_init_62 : decode cX7_init 62 = .ok (.aload_n 0, 1) := by decide +kernel
theorem dX7_init_63 : decode cX7_init 63 = .ok (.bipush 6, 2) := by decide +kernel
theorem dX7_init_65 : decode cX7_init 65 = .ok (.newarray .int, 2) := by decide +kernel
theorem dX7_init_67 : decode cX7_init 67 = .ok (.putfield 25, 3) := by decide +kernel
theorem dX7_init_70 : decode cX7_init 70 = .ok (.aload_n 0, 1) := by decide +kernel
theorem dX7_init_71 : decode cX7_init 71 = .ok (.bipush 6, 2) := by decide +kernel
theorem dX7_init_73 : decode cX7_init 73 = .ok (.newarray .int, 2) := by decide +kernel
theorem dX7_init_75 : decode cX7_init 75 = .ok (.putfield 28, 3) := by decide +kernel
theorem dX7_init_78 : decode cX7_init 78 = .ok (.aload_n 0, 1) := by decide +kernel
theorem dX7_init_79 : decode cX7_init 79 = .ok (.iconst 4, 1) := by decide +kernel
theorem dX7_init_80 : decode cX7_init 80 = .ok (.newarray .int, 2) := by decide +kernel
theorem dX7_init_82 : decode cX7_init 82 = .ok (.putfield 31, 3) := by decide +kernel
theorem dX7_init_85 : decode cX7_init 85 = .ok (.aload_n 0, 1) := by decide +kernel
theorem dX7_init_86 : decode cX7_init 86 = .ok (.bipush 24, 2) := by decide +kernel
theorem dX7_init_88 : decode cX7_init 88 = .ok (.newarray .int, 2) := by decide +kernel
theorem dX7_init_90 : decode cX7_init 90 = .ok (.putfield 34, 3) := by decide +kernel
theorem dX7_init_93 : decode cX7_init 93 = .ok (.aload_n 0, 1) := by decide +kernel
theorem dX7_init_94 : decode cX7_init 94 = .ok (.bipush 6, 2) := by decide +kernel
theorem dX7_init_96 : decode cX7_init 96 = .ok (.newarray .int, 2) := by decide +kernel
theorem dX7_init_98 : decode cX7_init 98 = .ok (.putfield 37, 3) := by decide +kernel
theorem dX7_init_101 : decode cX7_init 101 = .ok (.aload_n 0, 1) := by decide +kernel
theorem dX7_init_102 : decode cX7_init 102 = .ok (.bipush 6, 2) := by decide +kernel
theorem dX7_init_104 : decode cX7_init 104 = .ok (.newarray .int, 2) := by decide +kernel
theorem dX7_init_106 : decode cX7_init 106 = .ok (.putfield 40, 3) := by decide +kernel
theorem dX7_init_109 : decode cX7_init 109 = .ok (.aload_n 0, 1) := by decide +kernel
theorem dX7_init_110 : decode cX7_init 110 = .ok (.bipush 6, 2) := by decide +kernel
theorem dX7_init_112 : decode cX7_init 112 = .ok (.newarray .int, 2) := by decide +kernel
theorem dX7_init_114 : decode cX7_init 114 = .ok (.putfield 43, 3) := by decide +kernel
theorem dX7_init_117 : decode cX7_init 117 = .ok (.aload_n 0, 1) := by decide +kernel
theorem dX7_init_118 : decode cX7_init 118 = .ok (.bipush 8, 2) := by decide +kernel
theorem dX7_init_120 : decode cX7_init 120 = .ok (.newarray .int, 2) := by decide +kernel
theorem dX7_init_122 : decode cX7_init 122 = .ok (.putfield 46, 3) := by decide +kernel
theorem dX7_init_125 : decode cX7_init 125 = .ok (.aload_n 0, 1) := by decide +kernel
theorem dX7_init_126 : decode cX7_init 126 = .ok (.bipush 8, 2) := by decide +kernel
theorem dX7_init_128 : decode cX7_init 128 = .ok (.newarray .int, 2) := by decide +kernel
theorem dX7_init_130 : decode cX7_init 130 = .ok (.putfield 49, 3) := by decide +kernel
theorem dX7_init_133 : decode cX7_init 133 = .ok (.aload_n 0, 1) := by decide +kernel
theorem dX7_init_134 : decode cX7_init 134 = .ok (.bipush 8, 2) := by decide +kernel
theorem dX7_init_136 : decode cX7_init 136 = .ok (.newarray .int, 2) := by decide +kernel
theorem dX7_init_138 : decode cX7_init 138 = .ok (.putfield 52, 3) := by decide +kernel
theorem dX7_init_141 : decode cX7_init 141 = .ok (.return_, 1) := by decide +kernel
theorem dX7_fails_0 : decode cX7_fails 0 = .ok (.aload_n 0, 1) := by decide +kernel
theorem dX7_fails_1 : decode cX7_fails 1 = .ok (.iload_n 1, 1) := by decide +kernel
theorem dX7_fails_2 : decode cX7_fails 2 = .ok (.putfield 55, 3) := by decide +kernel
theorem dX7_fails_5 : decode cX7_fails 5 = .ok (.bipush (-10), 2) := by decide +kernel
theorem dX7_fails_7 : decode cX7_fails 7 = .ok (.iload_n 1, 1) := by decide +kernel
theorem dX7_fails_8 : decode cX7_fails 8 = .ok (.isub, 1) := by decide +kernel
theorem dX7_fails_9 : decode cX7_fails 9 = .ok (.ireturn, 1) := by decide +kernel
theorem dX7_lost_0 : decode cX7_lost 0 = .ok (.aload_n 0, 1) := by decide +kernel
theorem dX7_lost_1 : decode cX7_lost 1 = .ok (.iload_n 1, 1) := by decide +kernel
theorem dX7_lost_2 : decode cX7_lost 2 = .ok (.putfield 55, 3) := by decide +kernel
theorem dX7_lost_5 : decode cX7_lost 5 = .ok (.ldc2_w 59, 3) := by decide +kernel
theorem dX7_lost_8 : decode cX7_lost 8 = .ok (.lreturn, 1) := by decide +kernel
theorem dX7_within_0 : decode cX7_within 0 = .ok (.iload_n 0, 1) := by decide +kernel
theorem dX7_within_1 : decode cX7_within 1 = .ok (.iload_n 1, 1) := by decide +kernel
theorem dX7_within_2 : decode cX7_within 2 = .ok (.if_icmp .lt 12, 3) := by decide +kernel
theorem dX7_within_5 : decode cX7_within 5 = .ok (.iload_n 0, 1) := by decide +kernel
theorem dX7_within_6 : decode cX7_within 6 = .ok (.iload_n 2, 1) := by decide +kernel
theorem dX7_within_7 : decode cX7_within 7 = .ok (.if_icmp .gt 7, 3) := by decide +kernel
theorem dX7_within_10 : decode cX7_within 10 = .ok (.iconst 1, 1) := by decide +kernel
theorem dX7_within_11 : decode cX7_within 11 = .ok (.goto 4, 3) := by decide +kernel
theorem dX7_within_14 : decode cX7_within 14 = .ok (.iconst 0, 1) := by decide +kernel
theorem dX7_within_15 : decode cX7_within 15 = .ok (.ireturn, 1) := by decide +kernel
set_option maxRecDepth 20000 in
theorem ggX7_isSheet_X7_within : GoodIn wsX7_isSheet wsX7_within := goodIn_r _ [4] (by decide +kernel) (by decide +kernel)
set_option maxRecDepth 20000 in
theorem gX7_isSheet_X7_within : GoodIn wsX7_isSheet (va_wsS RX7 61 yX7_within wsX7_within) := goodIn_app (goodIn_of _ (by decide +kernel)) ggX7_isSheet_X7_within
theorem dX7_isSheet_0 : decode cX7_isSheet 0 = .ok (.iload_n 0, 1) := by decide +kernel
theorem dX7_isSheet_1 : decode cX7_isSheet 1 = .ok (.iconst 0, 1) := by decide +kernel
theorem dX7_isSheet_2 : decode cX7_isSheet 2 = .ok (.iconst 3, 1) := by decide +kernel
theorem dX7_isSheet_3 : decode cX7_isSheet 3 = .ok (.invokestatic 61, 3) := by decide +kernel
theorem dX7_isSheet_6 : decode cX7_isSheet 6 = .ok (.ireturn, 1) := by decide +kernel
set_option maxRecDepth 20000 in
theorem ggX7_isSort_X7_within : GoodIn wsX7_isSort wsX7_within := goodIn_r _ [4] (by decide +kernel) (by decide +kernel)
set_option maxRecDepth 20000 in
theorem gX7_isSort_X7_within : GoodIn wsX7_isSort (va_wsS RX7 61 yX7_within wsX7_within) := goodIn_app (goodIn_of _ (by decide +kernel)) ggX7_isSort_X7_within
theorem dX7_isSort_0 : decode cX7_isSort 0 = .ok (.iload_n 0, 1) := by decide +kernel
theorem dX7_isSort_1 : decode cX7_isSort 1 = .ok (.iconst 0, 1) := by decide +kernel
theorem dX7_isSort_2 : decode cX7_isSort 2 = .ok (.iconst 2, 1) := by decide +kernel
theorem dX7_isSort_3 : decode cX7_isSort 3 = .ok (.invokestatic 61, 3) := by decide +kernel
theorem dX7_isSort_6 : decode cX7_isSort 6 = .ok (.ireturn, 1) := by decide +kernel
theorem dX7_against_0 : decode cX7_against 0 = .ok (.aload_n 0, 1) := by decide +kernel
theorem dX7_against_1 : decode cX7_against 1 = .ok (.getfield 9, 3) := by decide +kernel
theorem dX7_against_4 : decode cX7_against 4 = .ok (.iload_n 1, 1) := by decide +kernel
theorem dX7_against_5 : decode cX7_against 5 = .ok (.iaload, 1) := by decide +kernel
theorem dX7_against_6 : decode cX7_against 6 = .ok (.bipush (-9), 2) := by decide +kernel
theorem dX7_against_8 : decode cX7_against 8 = .ok (.if_icmp .eq 15, 3) := by decide +kernel
theorem dX7_against_11 : decode cX7_against 11 = .ok (.aload_n 0, 1) := by decide +kernel
theorem dX7_against_12 : decode cX7_against 12 = .ok (.getfield 9, 3) := by decide +kernel
theorem dX7_against_15 : decode cX7_against 15 = .ok (.iload_n 1, 1) := by decide +kernel
theorem dX7_against_16 : decode cX7_against 16 = .ok (.iaload, 1) := by decide +kernel
theorem dX7_against_17 : decode cX7_against 17 = .ok (.iload_n 2, 1) := by decide +kernel
theorem dX7_against_18 : decode cX7_against 18 = .ok (.if_icmp .eq 5, 3) := by decide +kernel
theorem dX7_against_21 : decode cX7_against 21 = .ok (.iconst 2, 1) := by decide +kernel
theorem dX7_against_22 : decode cX7_against 22 = .ok (.ireturn, 1) := by decide +kernel
theorem dX7_against_23 : decode cX7_against 23 = .ok (.aload_n 0, 1) := by decide +kernel
theorem dX7_against_24 : decode cX7_against 24 = .ok (.getfield 9, 3) := by decide +kernel
theorem dX7_against_27 : decode cX7_against 27 = .ok (.iload_n 1, 1) := by decide +kernel
theorem dX7_against_28 : decode cX7_against 28 = .ok (.iaload, 1) := by decide +kernel
theorem dX7_against_29 : decode cX7_against 29 = .ok (.bipush (-9), 2) := by decide +kernel
theorem dX7_against_31 : decode cX7_against 31 = .ok (.if_icmp .ne 5, 3) := by decide +kernel
theorem dX7_against_34 : decode cX7_against 34 = .ok (.iconst 1, 1) := by decide +kernel
theorem dX7_against_35 : decode cX7_against 35 = .ok (.ireturn, 1) := by decide +kernel
theorem dX7_against_36 : decode cX7_against 36 = .ok (.iload 4, 2) := by decide +kernel
theorem dX7_against_38 : decode cX7_against 38 = .ok (.ifCond .ge 5, 3) := by decide +kernel
theorem dX7_against_41 : decode cX7_against 41 = .ok (.iconst 4, 1) := by decide +kernel
theorem dX7_against_42 : decode cX7_against 42 = .ok (.ireturn, 1) := by decide +kernel
theorem dX7_against_43 : decode cX7_against 43 = .ok (.iload_n 3, 1) := by decide +kernel
theorem dX7_against_44 : decode cX7_against 44 = .ok (.ifCond .lt 26, 3) := by decide +kernel
theorem dX7_against_47 : decode cX7_against 47 = .ok (.iload_n 3, 1) := by decide +kernel
theorem dX7_against_48 : decode cX7_against 48 = .ok (.aload_n 0, 1) := by decide +kernel
theorem dX7_against_49 : decode cX7_against 49 = .ok (.getfield 13, 3) := by decide +kernel
theorem dX7_against_52 : decode cX7_against 52 = .ok (.iload_n 1, 1) := by decide +kernel
theorem dX7_against_53 : decode cX7_against 53 = .ok (.iaload, 1) := by decide +kernel
theorem dX7_against_54 : decode cX7_against 54 = .ok (.if_icmp .gt 16, 3) := by decide +kernel
theorem dX7_against_57 : decode cX7_against 57 = .ok (.iload 4, 2) := by decide +kernel
theorem dX7_against_59 : decode cX7_against 59 = .ok (.aload_n 0, 1) := by decide +kernel
theorem dX7_against_60 : decode cX7_against 60 = .ok (.getfield 13, 3) := by decide +kernel
theorem dX7_against_63 : decode cX7_against 63 = .ok (.iload_n 1, 1) := by decide +kernel
theorem dX7_against_64 : decode cX7_against 64 = .ok (.iaload, 1) := by decide +kernel
theorem dX7_against_65 : decode cX7_against 65 = .ok (.iload_n 3, 1) := by decide +kernel
theorem dX7_against_66 : decode cX7_against 66 = .ok (.isub, 1) := by decide +kernel
theorem dX7_against_67 : decode cX7_against 67 = .ok (.if_icmp .le 7, 3) := by decide +kernel
theorem dX7_against_70 : decode cX7_against 70 = .ok (.iconst 3, 1) := by decide +kernel
theorem dX7_against_71 : decode cX7_against 71 = .ok (.goto 4, 3) := by decide +kernel
theorem dX7_against_74 : decode cX7_against 74 = .ok (.iconst 0, 1) := by decide +kernel
theorem dX7_against_75 : decode cX7_against 75 = .ok (.ireturn, 1) := by decide +kernel
theorem dX7_isGallery_0 : decode cX7_isGallery 0 = .ok (.iload_n 1, 1) := by decide +kernel
theorem dX7_isGallery_1 : decode cX7_isGallery 1 = .ok (.ifCond .lt 15, 3) := by decide +kernel
theorem dX7_isGallery_4 : decode cX7_isGallery 4 = .ok (.iload_n 1, 1) := by decide +kernel
theorem dX7_isGallery_5 : decode cX7_isGallery 5 = .ok (.aload_n 0, 1) := by decide +kernel
theorem dX7_isGallery_6 : decode cX7_isGallery 6 = .ok (.getfield 65, 3) := by decide +kernel
theorem dX7_isGallery_9 : decode cX7_isGallery 9 = .ok (.if_icmp .ge 7, 3) := by decide +kernel
theorem dX7_isGallery_12 : decode cX7_isGallery 12 = .ok (.iconst 1, 1) := by decide +kernel
theorem dX7_isGallery_13 : decode cX7_isGallery 13 = .ok (.goto 4, 3) := by decide +kernel
theorem dX7_isGallery_16 : decode cX7_isGallery 16 = .ok (.iconst 0, 1) := by decide +kernel
theorem dX7_isGallery_17 : decode cX7_isGallery 17 = .ok (.ireturn, 1) := by decide +kernel
theorem dX7_isWord_0 : decode cX7_isWord 0 = .ok (.iload_n 1, 1) := by decide +kernel
theorem dX7_isWord_1 : decode cX7_isWord 1 = .ok (.ifCond .lt 15, 3) := by decide +kernel
theorem dX7_isWord_4 : decode cX7_isWord 4 = .ok (.iload_n 1, 1) := by decide +kernel
theorem dX7_isWord_5 : decode cX7_isWord 5 = .ok (.aload_n 0, 1) := by decide +kernel
theorem dX7_isWord_6 : decode cX7_isWord 6 = .ok (.getfield 68, 3) := by decide +kernel
theorem dX7_isWord_9 : decode cX7_isWord 9 = .ok (.if_icmp .ge 7, 3) := by decide +kernel
theorem dX7_isWord_12 : decode cX7_isWord 12 = .ok (.iconst 1, 1) := by decide +kernel
theorem dX7_isWord_13 : decode cX7_isWord 13 = .ok (.goto 4, 3) := by decide +kernel
theorem dX7_isWord_16 : decode cX7_isWord 16 = .ok (.iconst 0, 1) := by decide +kernel
theorem dX7_isWord_17 : decode cX7_isWord 17 = .ok (.ireturn, 1) := by decide +kernel
theorem dX7_isOf_0 : decode cX7_isOf 0 = .ok (.iload_n 0, 1) := by decide +kernel
theorem dX7_isOf_1 : decode cX7_isOf 1 = .ok (.iload_n 1, 1) := by decide +kernel
theorem dX7_isOf_2 : decode cX7_isOf 2 = .ok (.ishr, 1) := by decide +kernel
theorem dX7_isOf_3 : decode cX7_isOf 3 = .ok (.iconst 1, 1) := by decide +kernel
theorem dX7_isOf_4 : decode cX7_isOf 4 = .ok (.iand, 1) := by decide +kernel
theorem dX7_isOf_5 : decode cX7_isOf 5 = .ok (.iconst 1, 1) := by decide +kernel
theorem dX7_isOf_6 : decode cX7_isOf 6 = .ok (.if_icmp .ne 7, 3) := by decide +kernel
theorem dX7_isOf_9 : decode cX7_isOf 9 = .ok (.iconst 1, 1) := by decide +kernel
theorem dX7_isOf_10 : decode cX7_isOf 10 = .ok (.goto 4, 3) := by decide +kernel
theorem dX7_isOf_13 : decode cX7_isOf 13 = .ok (.iconst 0, 1) := by decide +kernel
theorem dX7_isOf_14 : decode cX7_isOf 14 = .ok (.ireturn, 1) := by decide +kernel
set_option maxRecDepth 20000 in
theorem ggX7_digit_X7_within : GoodIn wsX7_digit wsX7_within := goodIn_r _ [6] (by decide +kernel) (by decide +kernel)
set_option maxRecDepth 20000 in
theorem gX7_digit_X7_within : GoodIn wsX7_digit (va_wsS RX7 61 yX7_within wsX7_within) := goodIn_app (goodIn_of _ (by decide +kernel)) ggX7_digit_X7_within
theorem dX7_digit_0 : decode cX7_digit 0 = .ok (.aload_n 0, 1) := by decide +kernel
theorem dX7_digit_1 : decode cX7_digit 1 = .ok (.getfield 71, 3) := by decide +kernel
theorem dX7_digit_4 : decode cX7_digit 4 = .ok (.iload_n 1, 1) := by decide +kernel
theorem dX7_digit_5 : decode cX7_digit 5 = .ok (.if_icmp .ge 26, 3) := by decide +kernel
theorem dX7_digit_8 : decode cX7_digit 8 = .ok (.aload_n 0, 1) := by decide +kernel
theorem dX7_digit_9 : decode cX7_digit 9 = .ok (.getfield 16, 3) := by decide +kernel
theorem dX7_digit_12 : decode cX7_digit 12 = .ok (.aload_n 0, 1) := by decide +kernel
theorem dX7_digit_13 : decode cX7_digit 13 = .ok (.getfield 71, 3) := by decide +kernel
theorem dX7_digit_16 : decode cX7_digit 16 = .ok (.iaload, 1) := by decide +kernel
theorem dX7_digit_17 : decode cX7_digit 17 = .ok (.bipush 48, 2) := by decide +kernel
theorem dX7_digit_19 : decode cX7_digit 19 = .ok (.iload_n 2, 1) := by decide +kernel
theorem dX7_digit_20 : decode cX7_digit 20 = .ok (.iadd, 1) := by decide +kernel
theorem dX7_digit_21 : decode cX7_digit 21 = .ok (.bipush 48, 2) := by decide +kernel
theorem dX7_digit_23 : decode cX7_digit 23 = .ok (.iload_n 3, 1) := by decide +kernel
theorem dX7_digit_24 : decode cX7_digit 24 = .ok (.iadd, 1) := by decide +kernel
theorem dX7_digit_25 : decode cX7_digit 25 = .ok (.invokestatic 61, 3) := by decide +kernel
theorem dX7_digit_28 : decode cX7_digit 28 = .ok (.ifCond .ne 6, 3) := by decide +kernel
theorem dX7_digit_31 : decode cX7_digit 31 = .ok (.bipush (-9), 2) := by decide +kernel
theorem dX7_digit_33 : decode cX7_digit 33 = .ok (.ireturn, 1) := by decide +kernel
theorem dX7_digit_34 : decode cX7_digit 34 = .ok (.aload_n 0, 1) := by decide +kernel
theorem dX7_digit_35 : decode cX7_digit 35 = .ok (.dup, 1) := by decide +kernel
theorem dX7_digit_36 : decode cX7_digit 36 = .ok (.getfield 71, 3) := by decide +kernel
theorem dX7_digit_39 : decode cX7_digit 39 = .ok (.iconst 1, 1) := by decide +kernel
theorem dX7_digit_40 : decode cX7_digit 40 = .ok (.iadd, 1) := by decide +kernel
theorem dX7_digit_41 : decode cX7_digit 41 = .ok (.putfield 71, 3) := by decide +kernel
theorem dX7_digit_44 : decode cX7_digit 44 = .ok (.aload_n 0, 1) := by decide +kernel
theorem dX7_digit_45 : decode cX7_digit 45 = .ok (.getfield 16, 3) := by decide +kernel
theorem dX7_digit_48 : decode cX7_digit 48 = .ok (.aload_n 0, 1) := by decide +kernel
theorem dX7_digit_49 : decode cX7_digit 49 = .ok (.getfield 71, 3) := by decide +kernel
theorem dX7_digit_52 : decode cX7_digit 52 = .ok (.iconst 1, 1) := by decide +kernel
theorem dX7_digit_53 : decode cX7_digit 53 = .ok (.isub, 1) := by decide +kernel
theorem dX7_digit_54 : decode cX7_digit 54 = .ok (.iaload, 1) := by decide +kernel
theorem dX7_digit_55 : decode cX7_digit 55 = .ok (.bipush 48, 2) := by decide +kernel
theorem dX7_digit_57 : decode cX7_digit 57 = .ok (.isub, 1) := by decide +kernel
theorem dX7_digit_58 : decode cX7_digit 58 = .ok (.ireturn, 1) := by decide +kernel
theorem dX7_isSign_0 : decode cX7_isSign 0 = .ok (.aload_n 0, 1) := by decide +kernel
theorem dX7_isSign_1 : decode cX7_isSign 1 = .ok (.getfield 71, 3) := by decide +kernel
theorem dX7_isSign_4 : decode cX7_isSign 4 = .ok (.iload_n 1, 1) := by decide +kernel
theorem dX7_isSign_5 : decode cX7_isSign 5 = .ok (.if_icmp .ge 16, 3) := by decide +kernel
theorem dX7_isSign_8 : decode cX7_isSign 8 = .ok (.aload_n 0, 1) := by decide +kernel
theorem dX7_isSign_9 : decode cX7_isSign 9 = .ok (.getfield 16, 3) := by decide +kernel
theorem dX7_isSign_12 : decode cX7_isSign 12 = .ok (.aload_n 0, 1) := by decide +kernel
theorem dX7_isSign_13 : decode cX7_isSign 13 = .ok (.getfield 71, 3) := by decide +kernel
theorem dX7_isSign_16 : decode cX7_isSign 16 = .ok (.iaload, 1) := by decide +kernel
theorem dX7_isSign_17 : decode cX7_isSign 17 = .ok (.iload_n 2, 1) := by decide +kernel
theorem dX7_isSign_18 : decode cX7_isSign 18 = .ok (.if_icmp .eq 5, 3) := by decide +kernel
theorem dX7_isSign_21 : decode cX7_isSign 21 = .ok (.iconst 0, 1) := by decide +kernel
theorem dX7_isSign_22 : decode cX7_isSign 22 = .ok (.ireturn, 1) := by decide +kernel
theorem dX7_isSign_23 : decode cX7_isSign 23 = .ok (.aload_n 0, 1) := by decide +kernel
theorem dX7_isSign_24 : decode cX7_isSign 24 = .ok (.dup, 1) := by decide +kernel
theorem dX7_isSign_25 : decode cX7_isSign 25 = .ok (.getfield 71, 3) := by decide +kernel
theorem dX7_isSign_28 : decode cX7_isSign 28 = .ok (.iconst 1, 1) := by decide +kernel
theorem dX7_isSign_29 : decode cX7_isSign 29 = .ok (.iadd, 1) := by decide +kernel
theorem dX7_isSign_30 : decode cX7_isSign 30 = .ok (.putfield 71, 3) := by decide +kernel
theorem dX7_isSign_33 : decode cX7_isSign 33 = .ok (.iconst 1, 1) := by decide +kernel
theorem dX7_isSign_34 : decode cX7_isSign 34 = .ok (.ireturn, 1) := by decide +kernel
set_option maxRecDepth 20000 in
theorem ggX7_mine_X7_isSheet : GoodIn wsX7_mine wsX7_isSheet := goodIn_r _ [7, 8, 9, 6, 10] (by decide +kernel) (by decide +kernel)
set_option maxRecDepth 20000 in
theorem gX7_mine_X7_isSheet : GoodIn wsX7_mine (va_wsS RX7 74 yX7_isSheet wsX7_isSheet) := goodIn_app (goodIn_of _ (by decide +kernel)) ggX7_mine_X7_isSheet
set_option maxRecDepth 20000 in
theorem ggX7_mine_X7_isSort : GoodIn wsX7_mine wsX7_isSort := goodIn_r _ [13, 8, 9, 6, 10] (by decide +kernel) (by decide +kernel)
set_option maxRecDepth 20000 in
theorem gX7_mine_X7_isSort : GoodIn wsX7_mine (va_wsS RX7 78 yX7_isSort wsX7_isSort) := goodIn_app (goodIn_of _ (by decide +kernel)) ggX7_mine_X7_isSort
set_option maxRecDepth 20000 in
theorem ggX7_mine_X7_against : GoodIn wsX7_mine wsX7_against := goodIn_r _ [17, 18, 19, 62, 63, 64, 65, 66, 67, 68, 69, 70, 71, 72, 73, 74, 75, 76, 77, 78, 79, 80, 81, 82, 83, 84, 85, 86, 87, 88, 89, 90] (by decide +kernel) (by decide +kernel)
set_option maxRecDepth 20000 in
theorem gX7_mine_X7_against : GoodIn wsX7_mine (wsV RX7 81 RX7 yX7_against wsX7_against) := goodIn_app (goodIn_of _ (by decide +kernel)) ggX7_mine_X7_against
set_option maxRecDepth 20000 in
theorem ggX7_mine_X7_fails : GoodIn wsX7_mine wsX7_fails := goodIn_r _ [23, 1, 62, 63, 64, 65, 66, 67, 68, 69, 70, 71, 72, 73, 74, 75, 76, 77, 78, 79, 80, 81, 82, 83, 84, 85, 86, 87, 88, 89, 90] (by decide +kernel) (by decide +kernel)
set_option maxRecDepth 20000 in
theorem gX7_mine_X7_fails : GoodIn wsX7_mine (wsV RX7 85 RX7 yX7_fails wsX7_fails) := goodIn_app (goodIn_of _ (by decide +kernel)) ggX7_mine_X7_fails
set_option maxRecDepth 20000 in
theorem ggX7_mine_X7_readMine : GoodIn wsX7_mine wsX7_readMine := goodIn_r _ [27, 28, 2, 29, 30, 31, 6, 32, 33, 34, 35, 36, 37, 38, 39, 40, 41, 42, 43, 8, 9, 10, 44, 45, 46, 47, 48, 62, 63, 64, 65, 66, 67, 68, 69, 70, 71, 72, 73, 74, 75, 76, 77, 78, 79, 80, 81, 82, 83, 84, 85, 86, 87, 88, 89, 90] (by decide +kernel) (by decide +kernel)
set_option maxRecDepth 20000 in
theorem gX7_mine_X7_readMine : GoodIn wsX7_mine (wsV RX7 89 RX7 yX7_readMine wsX7_readMine) := goodIn_app (goodIn_of _ (by decide +kernel)) ggX7_mine_X7_readMine
set_option maxRecDepth 20000 in
theorem ggX7_mine_X7_takeMine : GoodIn wsX7_mine wsX7_takeMine := goodIn_r _ [52, 38, 53, 54, 39, 28, 3, 55, 56, 48, 57, 58, 59, 60, 61, 62, 63, 64, 65, 66, 67, 68, 69, 70, 71, 72, 73, 74, 75, 76, 77, 78, 79, 80, 81, 82, 83, 84, 85, 86, 87, 88, 89, 90] (by decide +kernel) (by decide +kernel)
set_option maxRecDepth 20000 in
theorem gX7_mine_X7_takeMine : GoodIn wsX7_mine (wsV RX7 92 RX7 yX7_takeMine wsX7_takeMine) := goodIn_app (goodIn_of _ (by decide +kernel)) ggX7_mine_X7_takeMine
theorem dX7_mine_0 : decode cX7_mine 0 = .ok (.aload_n 0, 1) := by decide +kernel
theorem dX7_mine_1 : decode cX7_mine 1 = .ok (.iconst 0, 1) := by decide +kernel
theorem dX7_mine_2 : decode cX7_mine 2 = .ok (.putfield 55, 3) := by decide +kernel
theorem dX7_mine_5 : decode cX7_mine 5 = .ok (.iload_n 1, 1) := by decide +kernel
theorem dX7_mine_6 : decode cX7_mine 6 = .ok (.invokestatic 74, 3) := by decide +kernel
theorem dX7_mine_9 : decode cX7_mine 9 = .ok (.ifCond .ne 5, 3) := by decide +kernel
theorem dX7_mine_12 : decode cX7_mine 12 = .ok (.iconst (-1), 1) := by decide +kernel
theorem dX7_mine_13 : decode cX7_mine 13 = .ok (.ireturn, 1) := by decide +kernel
theorem dX7_mine_14 : decode cX7_mine 14 = .ok (.iload_n 2, 1) := by decide +kernel
theorem dX7_mine_15 : decode cX7_mine 15 = .ok (.invokestatic 78, 3) := by decide +kernel
theorem dX7_mine_18 : decode cX7_mine 18 = .ok (.ifCond .ne 6, 3) := by decide +kernel
theorem dX7_mine_21 : decode cX7_mine 21 = .ok (.bipush (-2), 2) := by decide +kernel
theorem dX7_mine_23 : decode cX7_mine 23 = .ok (.ireturn, 1) := by decide +kernel
theorem dX7_mine_24 : decode cX7_mine 24 = .ok (.aload_n 0, 1) := by decide +kernel
theorem dX7_mine_25 : decode cX7_mine 25 = .ok (.iload_n 1, 1) := by decide +kernel
theorem dX7_mine_26 : decode cX7_mine 26 = .ok (.iload_n 2, 1) := by decide +kernel
theorem dX7_mine_27 : decode cX7_mine 27 = .ok (.iload_n 3, 1) := by decide +kernel
theorem dX7_mine_28 : decode cX7_mine 28 = .ok (.iload 4, 2) := by decide +kernel
theorem dX7_mine_30 : decode cX7_mine 30 = .ok (.invokevirtual 81, 3) := by decide +kernel
theorem dX7_mine_33 : decode cX7_mine 33 = .ok (.istore 5, 2) := by decide +kernel
theorem dX7_mine_35 : decode cX7_mine 35 = .ok (.iload 5, 2) := by decide +kernel
theorem dX7_mine_37 : decode cX7_mine 37 = .ok (.ifCond .eq 10, 3) := by decide +kernel
theorem dX7_mine_40 : decode cX7_mine 40 = .ok (.aload_n 0, 1) := by decide +kernel
theorem dX7_mine_41 : decode cX7_mine 41 = .ok (.iload 5, 2) := by decide +kernel
theorem dX7_mine_43 : decode cX7_mine 43 = .ok (.invokevirtual 85, 3) := by decide +kernel
theorem dX7_mine_46 : decode cX7_mine 46 = .ok (.ireturn, 1) := by decide +kernel
theorem dX7_mine_47 : decode cX7_mine 47 = .ok (.bipush 60, 2) := by decide +kernel
theorem dX7_mine_49 : decode cX7_mine 49 = .ok (.iload_n 1, 1) := by decide +kernel
theorem dX7_mine_50 : decode cX7_mine 50 = .ok (.imul, 1) := by decide +kernel
theorem dX7_mine_51 : decode cX7_mine 51 = .ok (.iload_n 3, 1) := by decide +kernel
theorem dX7_mine_52 : decode cX7_mine 52 = .ok (.iadd, 1) := by decide +kernel
theorem dX7_mine_53 : decode cX7_mine 53 = .ok (.istore 6, 2) := by decide +kernel
theorem dX7_mine_55 : decode cX7_mine 55 = .ok (.aload_n 0, 1) := by decide +kernel
theorem dX7_mine_56 : decode cX7_mine 56 = .ok (.iload 6, 2) := by decide +kernel
theorem dX7_mine_58 : decode cX7_mine 58 = .ok (.putfield 71, 3) := by decide +kernel
theorem dX7_mine_61 : decode cX7_mine 61 = .ok (.aload_n 0, 1) := by decide +kernel
theorem dX7_mine_62 : decode cX7_mine 62 = .ok (.iload 6, 2) := by decide +kernel
theorem dX7_mine_64 : decode cX7_mine 64 = .ok (.iload 4, 2) := by decide +kernel
theorem dX7_mine_66 : decode cX7_mine 66 = .ok (.iadd, 1) := by decide +kernel
theorem dX7_mine_67 : decode cX7_mine 67 = .ok (.invokevirtual 89, 3) := by decide +kernel
theorem dX7_mine_70 : decode cX7_mine 70 = .ok (.ifCond .ne 14, 3) := by decide +kernel
theorem dX7_mine_73 : decode cX7_mine 73 = .ok (.bipush (-100), 2) := by decide +kernel
theorem dX7_mine_75 : decode cX7_mine 75 = .ok (.aload_n 0, 1) := by decide +kernel
theorem dX7_mine_76 : decode cX7_mine 76 = .ok (.getfield 71, 3) := by decide +kernel
theorem dX7_mine_79 : decode cX7_mine 79 = .ok (.iload 6, 2) := by decide +kernel
theorem dX7_mine_81 : decode cX7_mine 81 = .ok (.isub, 1) := by decide +kernel
theorem dX7_mine_82 : decode cX7_mine 82 = .ok (.isub, 1) := by decide +kernel
theorem dX7_mine_83 : decode cX7_mine 83 = .ok (.ireturn, 1) := by decide +kernel
theorem dX7_mine_84 : decode cX7_mine 84 = .ok (.aload_n 0, 1) := by decide +kernel
theorem dX7_mine_85 : decode cX7_mine 85 = .ok (.invokevirtual 92, 3) := by decide +kernel
theorem dX7_mine_88 : decode cX7_mine 88 = .ok (.aload_n 0, 1) := by decide +kernel
theorem dX7_mine_89 : decode cX7_mine 89 = .ok (.getfield 65, 3) := by decide +kernel
theorem dX7_mine_92 : decode cX7_mine 92 = .ok (.ireturn, 1) := by decide +kernel
theorem dX7_takeMine_0 : decode cX7_takeMine 0 = .ok (.aload_n 0, 1) := by decide +kernel
theorem dX7_takeMine_1 : decode cX7_takeMine 1 = .ok (.aload_n 0, 1) := by decide +kernel
theorem dX7_takeMine_2 : decode cX7_takeMine 2 = .ok (.getfield 95, 3) := by decide +kernel
theorem dX7_takeMine_5 : decode cX7_takeMine 5 = .ok (.putfield 68, 3) := by decide +kernel
theorem dX7_takeMine_8 : decode cX7_takeMine 8 = .ok (.iconst 0, 1) := by decide +kernel
theorem dX7_takeMine_9 : decode cX7_takeMine 9 = .ok (.istore_n 1, 1) := by decide +kernel
theorem dX7_takeMine_10 : decode cX7_takeMine 10 = .ok (.iload_n 1, 1) := by decide +kernel
theorem dX7_takeMine_11 : decode cX7_takeMine 11 = .ok (.aload_n 0, 1) := by decide +kernel
theorem dX7_takeMine_12 : decode cX7_takeMine 12 = .ok (.getfield 68, 3) := by decide +kernel
theorem dX7_takeMine_15 : decode cX7_takeMine 15 = .ok (.if_icmp .ge 21, 3) := by decide +kernel
theorem dX7_takeMine_18 : decode cX7_takeMine 18 = .ok (.aload_n 0, 1) := by decide +kernel
theorem dX7_takeMine_19 : decode cX7_takeMine 19 = .ok (.getfield 19, 3) := by decide +kernel
theorem dX7_takeMine_22 : decode cX7_takeMine 22 = .ok (.iload_n 1, 1) := by decide +kernel
theorem dX7_takeMine_23 : decode cX7_takeMine 23 = .ok (.aload_n 0, 1) := by decide +kernel
theorem dX7_takeMine_24 : decode cX7_takeMine 24 = .ok (.getfield 31, 3) := by decide +kernel
theorem dX7_takeMine_27 : decode cX7_takeMine 27 = .ok (.iload_n 1, 1) := by decide +kernel
theorem dX7_takeMine_28 : decode cX7_takeMine 28 = .ok (.iaload, 1) := by decide +kernel
theorem dX7_takeMine_29 : decode cX7_takeMine 29 = .ok (.iastore, 1) := by decide +kernel
theorem dX7_takeMine_30 : decode cX7_takeMine 30 = .ok (.iinc 1 1, 3) := by decide +kernel
theorem dX7_takeMine_33 : decode cX7_takeMine 33 = .ok (.goto (-23), 3) := by decide +kernel
theorem dX7_takeMine_36 : decode cX7_takeMine 36 = .ok (.aload_n 0, 1) := by decide +kernel
theorem dX7_takeMine_37 : decode cX7_takeMine 37 = .ok (.aload_n 0, 1) := by decide +kernel
theorem dX7_takeMine_38 : decode cX7_takeMine 38 = .ok (.getfield 98, 3) := by decide +kernel
theorem dX7_takeMine_41 : decode cX7_takeMine 41 = .ok (.putfield 65, 3) := by decide +kernel
theorem dX7_takeMine_44 : decode cX7_takeMine 44 = .ok (.aload_n 0, 1) := by decide +kernel
theorem dX7_takeMine_45 : decode cX7_takeMine 45 = .ok (.iconst 0, 1) := by decide +kernel
theorem dX7_takeMine_46 : decode cX7_takeMine 46 = .ok (.putfield 101, 3) := by decide +kernel
theorem dX7_takeMine_49 : decode cX7_takeMine 49 = .ok (.iconst 0, 1) := by decide +kernel
theorem dX7_takeMine_50 : decode cX7_takeMine 50 = .ok (.istore_n 1, 1) := by decide +kernel
theorem dX7_takeMine_51 : decode cX7_takeMine 51 = .ok (.iload_n 1, 1) := by decide +kernel
theorem dX7_takeMine_52 : decode cX7_takeMine 52 = .ok (.aload_n 0, 1) := by decide +kernel
theorem dX7_takeMine_53 : decode cX7_takeMine 53 = .ok (.getfield 65, 3) := by decide +kernel
theorem dX7_takeMine_56 : decode cX7_takeMine 56 = .ok (.if_icmp .ge 95, 3) := by decide +kernel
theorem dX7_takeMine_59 : decode cX7_takeMine 59 = .ok (.aload_n 0, 1) := by decide +kernel
theorem dX7_takeMine_60 : decode cX7_takeMine 60 = .ok (.getfield 22, 3) := by decide +kernel
theorem dX7_takeMine_63 : decode cX7_takeMine 63 = .ok (.iload_n 1, 1) := by decide +kernel
theorem dX7_takeMine_64 : decode cX7_takeMine 64 = .ok (.aload_n 0, 1) := by decide +kernel
theorem dX7_takeMine_65 : decode cX7_takeMine 65 = .ok (.getfield 34, 3) := by decide +kernel
theorem dX7_takeMine_68 : decode cX7_takeMine 68 = .ok (.iconst 4, 1) := by decide +kernel
theorem dX7_takeMine_69 : decode cX7_takeMine 69 = .ok (.iload_n 1, 1) := by decide +kernel
theorem dX7_takeMine_70 : decode cX7_takeMine 70 = .ok (.imul, 1) := by decide +kernel
theorem dX7_takeMine_71 : decode cX7_takeMine 71 = .ok (.iaload, 1) := by decide +kernel
theorem dX7_takeMine_72 : decode cX7_takeMine 72 = .ok (.iastore, 1) := by decide +kernel
theorem dX7_takeMine_73 : decode cX7_takeMine 73 = .ok (.aload_n 0, 1) := by decide +kernel
theorem dX7_takeMine_74 : decode cX7_takeMine 74 = .ok (.getfield 25, 3) := by decide +kernel
theorem dX7_takeMine_77 : decode cX7_takeMine 77 = .ok (.iload_n 1, 1) := by decide +kernel
theorem dX7_takeMine_78 : decode cX7_takeMine 78 = .ok (.aload_n 0, 1) := by decide +kernel
theorem dX7_takeMine_79 : decode cX7_takeMine 79 = .ok (.getfield 34, 3) := by decide +kernel
theorem dX7_takeMine_82 : decode cX7_takeMine 82 = .ok (.iconst 4, 1) := by decide +kernel
theorem dX7_takeMine_83 : decode cX7_takeMine 83 = .ok (.iload_n 1, 1) := by decide +kernel
theorem dX7_takeMine_84 : decode cX7_takeMine 84 = .ok (.imul, 1) := by decide +kernel
theorem dX7_takeMine_85 : decode cX7_takeMine 85 = .ok (.iconst 1, 1) := by decide +kernel
theorem dX7_takeMine_86 : decode cX7_takeMine 86 = .ok (.iadd, 1) := by decide +kernel
theorem dX7_takeMine_87 : decode cX7_takeMine 87 = .ok (.iaload, 1) := by decide +kernel
theorem dX7_takeMine_88 : decode cX7_takeMine 88 = .ok (.iastore, 1) := by decide +kernel
theorem dX7_takeMine_89 : decode cX7_takeMine 89 = .ok (.aload_n 0, 1) := by decide +kernel
theorem dX7_takeMine_90 : decode cX7_takeMine 90 = .ok (.getfield 28, 3) := by decide +kernel
theorem dX7_takeMine_93 : decode cX7_takeMine 93 = .ok (.iload_n 1, 1) := by decide +kernel
theorem dX7_takeMine_94 : decode cX7_takeMine 94 = .ok (.aload_n 0, 1) := by decide +kernel
theorem dX7_takeMine_95 : decode cX7_takeMine 95 = .ok (.getfield 34, 3) := by decide +kernel
theorem dX7_takeMine_98 : decode cX7_takeMine 98 = .ok (.iconst 4, 1) := by decide +kernel
theorem dX7_takeMine_99 : decode cX7_takeMine 99 = .ok (.iload_n 1, 1) := by decide +kernel
theorem dX7_takeMine_100 : decode cX7_takeMine 100 = .ok (.imul, 1) := by decide +kernel
theorem dX7_takeMine_101 : decode cX7_takeMine 101 = .ok (.iconst 2, 1) := by decide +kernel
theorem dX7_takeMine_102 : decode cX7_takeMine 102 = .ok (.iadd, 1) := by decide +kernel
theorem dX7_takeMine_103 : decode cX7_takeMine 103 = .ok (.iaload, 1) := by decide +kernel
theorem dX7_takeMine_104 : decode cX7_takeMine 104 = .ok (.iastore, 1) := by decide +kernel
theorem dX7_takeMine_105 : decode cX7_takeMine 105 = .ok (.aload_n 0, 1) := by decide +kernel
theorem dX7_takeMine_106 : decode cX7_takeMine 106 = .ok (.dup, 1) := by decide +kernel
theorem dX7_takeMine_107 : decode cX7_takeMine 107 = .ok (.getfield 101, 3) := by decide +kernel
theorem dX7_takeMine_110 : decode cX7_takeMine 110 = .ok (.aload_n 0, 1) := by decide +kernel
theorem dX7_takeMine_111 : decode cX7_takeMine 111 = .ok (.getfield 34, 3) := by decide +kernel
theorem dX7_takeMine_114 : decode cX7_takeMine 114 = .ok (.iconst 4, 1) := by decide +kernel
theorem dX7_takeMine_115 : decode cX7_takeMine 115 = .ok (.iload_n 1, 1) := by decide +kernel
theorem dX7_takeMine_116 : decode cX7_takeMine 116 = .ok (.imul, 1) := by decide +kernel
theorem dX7_takeMine_117 : decode cX7_takeMine 117 = .ok (.iconst 3, 1) := by decide +kernel
theorem dX7_takeMine_118 : decode cX7_takeMine 118 = .ok (.iadd, 1) := by decide +kernel
theorem dX7_takeMine_119 : decode cX7_takeMine 119 = .ok (.iaload, 1) := by decide +kernel
theorem dX7_takeMine_120 : decode cX7_takeMine 120 = .ok (.iconst 1, 1) := by decide +kernel
theorem dX7_takeMine_121 : decode cX7_takeMine 121 = .ok (.if_icmp .ne 19, 3) := by decide +kernel
theorem dX7_takeMine_124 : decode cX7_takeMine 124 = .ok (.iload_n 1, 1) := by decide +kernel
theorem dX7_takeMine_125 : decode cX7_takeMine 125 = .ok (.aload_n 0, 1) := by decide +kernel
theorem dX7_takeMine_126 : decode cX7_takeMine 126 = .ok (.getfield 65, 3) := by decide +kernel
theorem dX7_takeMine_129 : decode cX7_takeMine 129 = .ok (.iconst 1, 1) := by decide +kernel
theorem dX7_takeMine_130 : decode cX7_takeMine 130 = .ok (.isub, 1) := by decide +kernel
theorem dX7_takeMine_131 : decode cX7_takeMine 131 = .ok (.if_icmp .ge 9, 3) := by decide +kernel
theorem dX7_takeMine_134 : decode cX7_takeMine 134 = .ok (.iconst 1, 1) := by decide +kernel
theorem dX7_takeMine_135 : decode cX7_takeMine 135 = .ok (.iload_n 1, 1) := by decide +kernel
theorem dX7_takeMine_136 : decode cX7_takeMine 136 = .ok (.ishl, 1) := by decide +kernel
theorem dX7_takeMine_137 : decode cX7_takeMine 137 = .ok (.goto 4, 3) := by decide +kernel
theorem dX7_takeMine_140 : decode cX7_takeMine 140 = .ok (.iconst 0, 1) := by decide +kernel
theorem dX7_takeMine_141 : decode cX7_takeMine 141 = .ok (.ior, 1) := by decide +kernel
theorem dX7_takeMine_142 : decode cX7_takeMine 142 = .ok (.putfield 101, 3) := by decide +kernel
theorem dX7_takeMine_145 : decode cX7_takeMine 145 = .ok (.iinc 1 1, 3) := by decide +kernel
theorem dX7_takeMine_148 : decode cX7_takeMine 148 = .ok (.goto (-97), 3) := by decide +kernel
theorem dX7_takeMine_151 : decode cX7_takeMine 151 = .ok (.aload_n 0, 1) := by decide +kernel
theorem dX7_takeMine_152 : decode cX7_takeMine 152 = .ok (.iconst 0, 1) := by decide +kernel
theorem dX7_takeMine_153 : decode cX7_takeMine 153 = .ok (.putfield 104, 3) := by decide +kernel
theorem dX7_takeMine_156 : decode cX7_takeMine 156 = .ok (.aload_n 0, 1) := by decide +kernel
theorem dX7_takeMine_157 : decode cX7_takeMine 157 = .ok (.iconst 0, 1) := by decide +kernel
theorem dX7_takeMine_158 : decode cX7_takeMine 158 = .ok (.putfield 107, 3) := by decide +kernel
theorem dX7_takeMine_161 : decode cX7_takeMine 161 = .ok (.aload_n 0, 1) := by decide +kernel
theorem dX7_takeMine_162 : decode cX7_takeMine 162 = .ok (.iconst 0, 1) := by decide +kernel
theorem dX7_takeMine_163 : decode cX7_takeMine 163 = .ok (.putfield 110, 3) := by decide +kernel
theorem dX7_takeMine_166 : decode cX7_takeMine 166 = .ok (.return_, 1) := by decide +kernel
set_option maxRecDepth 20000 in
theorem ggX7_readMine_X7_isSign : GoodIn wsX7_readMine wsX7_isSign := goodIn_r _ [7, 2, 8, 27, 28, 29, 30, 31, 32, 33, 34, 35, 36, 37, 38, 39, 40, 41, 42, 43, 44, 45, 46, 47, 48, 49, 50, 51, 52, 53, 54, 55] (by decide +kernel) (by decide +kernel)
set_option maxRecDepth 20000 in
theorem gX7_readMine_X7_isSign : GoodIn wsX7_readMine (wsV RX7 113 RX7 yX7_isSign wsX7_isSign) := goodIn_app (goodIn_of _ (by decide +kernel)) ggX7_readMine_X7_isSign
set_option maxRecDepth 20000 in
theorem ggX7_readMine_X7_readTheWords : GoodIn wsX7_readMine wsX7_readTheWords := goodIn_r _ [12, 13, 14, 15, 16, 17, 6, 18, 2, 8, 19, 20, 21, 27, 28, 29, 30, 31, 32, 33, 34, 35, 36, 37, 38, 39, 40, 41, 42, 43, 44, 45, 46, 47, 48, 49, 50, 51, 52, 53, 54, 55] (by decide +kernel) (by decide +kernel)
set_option maxRecDepth 20000 in
theorem gX7_readMine_X7_readTheWords : GoodIn wsX7_readMine (wsV RX7 117 RX7 yX7_readTheWords wsX7_readTheWords) := goodIn_app (goodIn_of _ (by decide +kernel)) ggX7_readMine_X7_readTheWords
set_option maxRecDepth 20000 in
theorem ggX7_readMine_X7_readGallery : GoodIn wsX7_readMine wsX7_readGallery := goodIn_r _ [25, 2, 8, 1, 26, 15, 16, 17, 6, 18, 19, 20, 21, 27, 28, 29, 30, 31, 32, 33, 34, 35, 36, 37, 38, 39, 40, 41, 42, 43, 44, 45, 46, 47, 48, 49, 50, 51, 52, 53, 54, 55] (by decide +kernel) (by decide +kernel)
set_option maxRecDepth 20000 in
theorem gX7_readMine_X7_readGallery : GoodIn wsX7_readMine (wsV RX7 120 RX7 yX7_readGallery wsX7_readGallery) := goodIn_app (goodIn_of _ (by decide +kernel)) ggX7_readMine_X7_readGallery
theorem dX7_readMine_0 : decode cX7_readMine 0 = .ok (.aload_n 0, 1) := by decide +kernel
theorem dX7_readMine_1 : decode cX7_readMine 1 = .ok (.iconst 0, 1) := by decide +kernel
theorem dX7_readMine_2 : decode cX7_readMine 2 = .ok (.putfield 98, 3) := by decide +kernel
theorem dX7_readMine_5 : decode cX7_readMine 5 = .ok (.aload_n 0, 1) := by decide +kernel
theorem dX7_readMine_6 : decode cX7_readMine 6 = .ok (.iload_n 1, 1) := by decide +kernel
theorem dX7_readMine_7 : decode cX7_readMine 7 = .ok (.bipush 109, 2) := by decide +kernel
theorem dX7_readMine_9 : decode cX7_readMine 9 = .ok (.invokevirtual 113, 3) := by decide +kernel
theorem dX7_readMine_12 : decode cX7_readMine 12 = .ok (.ifCond .eq 11, 3) := by decide +kernel
theorem dX7_readMine_15 : decode cX7_readMine 15 = .ok (.aload_n 0, 1) := by decide +kernel
theorem dX7_readMine_16 : decode cX7_readMine 16 = .ok (.iload_n 1, 1) := by decide +kernel
theorem dX7_readMine_17 : decode cX7_readMine 17 = .ok (.invokevirtual 117, 3) := by decide +kernel
theorem dX7_readMine_20 : decode cX7_readMine 20 = .ok (.ifCond .ne 5, 3) := by decide +kernel
theorem dX7_readMine_23 : decode cX7_readMine 23 = .ok (.iconst 0, 1) := by decide +kernel
theorem dX7_readMine_24 : decode cX7_readMine 24 = .ok (.ireturn, 1) := by decide +kernel
theorem dX7_readMine_25 : decode cX7_readMine 25 = .ok (.aload_n 0, 1) := by decide +kernel
theorem dX7_readMine_26 : decode cX7_readMine 26 = .ok (.getfield 98, 3) := by decide +kernel
theorem dX7_readMine_29 : decode cX7_readMine 29 = .ok (.iconst 2, 1) := by decide +kernel
theorem dX7_readMine_30 : decode cX7_readMine 30 = .ok (.if_icmp .lt 20, 3) := by decide +kernel
theorem dX7_readMine_33 : decode cX7_readMine 33 = .ok (.aload_n 0, 1) := by decide +kernel
theorem dX7_readMine_34 : decode cX7_readMine 34 = .ok (.getfield 98, 3) := by decide +kernel
theorem dX7_readMine_37 : decode cX7_readMine 37 = .ok (.bipush 6, 2) := by decide +kernel
theorem dX7_readMine_39 : decode cX7_readMine 39 = .ok (.if_icmp .ge 31, 3) := by decide +kernel
theorem dX7_readMine_42 : decode cX7_readMine 42 = .ok (.aload_n 0, 1) := by decide +kernel
theorem dX7_readMine_43 : decode cX7_readMine 43 = .ok (.getfield 71, 3) := by decide +kernel
theorem dX7_readMine_46 : decode cX7_readMine 46 = .ok (.iload_n 1, 1) := by decide +kernel
theorem dX7_readMine_47 : decode cX7_readMine 47 = .ok (.if_icmp .ge 23, 3) := by decide +kernel
theorem dX7_readMine_50 : decode cX7_readMine 50 = .ok (.aload_n 0, 1) := by decide +kernel
theorem dX7_readMine_51 : decode cX7_readMine 51 = .ok (.iload_n 1, 1) := by decide +kernel
theorem dX7_readMine_52 : decode cX7_readMine 52 = .ok (.bipush 59, 2) := by decide +kernel
theorem dX7_readMine_54 : decode cX7_readMine 54 = .ok (.invokevirtual 113, 3) := by decide +kernel
theorem dX7_readMine_57 : decode cX7_readMine 57 = .ok (.ifCond .eq 11, 3) := by decide +kernel
theorem dX7_readMine_60 : decode cX7_readMine 60 = .ok (.aload_n 0, 1) := by decide +kernel
theorem dX7_readMine_61 : decode cX7_readMine 61 = .ok (.iload_n 1, 1) := by decide +kernel
theorem dX7_readMine_62 : decode cX7_readMine 62 = .ok (.invokevirtual 120, 3) := by decide +kernel
theorem dX7_readMine_65 : decode cX7_readMine 65 = .ok (.ifCond .ne (-40), 3) := by decide +kernel
theorem dX7_readMine_68 : decode cX7_readMine 68 = .ok (.iconst 0, 1) := by decide +kernel
theorem dX7_readMine_69 : decode cX7_readMine 69 = .ok (.ireturn, 1) := by decide +kernel
theorem dX7_readMine_70 : decode cX7_readMine 70 = .ok (.aload_n 0, 1) := by decide +kernel
theorem dX7_readMine_71 : decode cX7_readMine 71 = .ok (.getfield 71, 3) := by decide +kernel
theorem dX7_readMine_74 : decode cX7_readMine 74 = .ok (.iload_n 1, 1) := by decide +kernel
theorem dX7_readMine_75 : decode cX7_readMine 75 = .ok (.if_icmp .ne 7, 3) := by decide +kernel
theorem dX7_readMine_78 : decode cX7_readMine 78 = .ok (.iconst 1, 1) := by decide +kernel
theorem dX7_readMine_79 : decode cX7_readMine 79 = .ok (.goto 4, 3) := by decide +kernel
theorem dX7_readMine_82 : decode cX7_readMine 82 = .ok (.iconst 0, 1) := by decide +kernel
theorem dX7_readMine_83 : decode cX7_readMine 83 = .ok (.ireturn, 1) := by decide +kernel
set_option maxRecDepth 20000 in
theorem ggX7_readTheWords_X7_digit : GoodIn wsX7_readTheWords wsX7_digit := goodIn_r _ [7, 8, 9, 10, 11, 6, 12, 13, 14, 15, 16, 17, 18, 19, 20, 21, 22, 23, 24, 25, 26, 27, 28, 29, 30, 31, 32, 33, 34, 35, 36, 37, 38, 39, 40, 41] (by decide +kernel) (by decide +kernel)
set_option maxRecDepth 20000 in
theorem gX7_readTheWords_X7_digit : GoodIn wsX7_readTheWords (wsV RX7 123 RX7 yX7_digit wsX7_digit) := goodIn_app (goodIn_of _ (by decide +kernel)) ggX7_readTheWords_X7_digit
theorem dX7_readTheWords_0 : decode cX7_readTheWords 0 = .ok (.aload_n 0, 1) := by decide +kernel
theorem dX7_readTheWords_1 : decode cX7_readTheWords 1 = .ok (.iconst 0, 1) := by decide +kernel
theorem dX7_readTheWords_2 : decode cX7_readTheWords 2 = .ok (.putfield 95, 3) := by decide +kernel
theorem dX7_readTheWords_5 : decode cX7_readTheWords 5 = .ok (.aload_n 0, 1) := by decide +kernel
theorem dX7_readTheWords_6 : decode cX7_readTheWords 6 = .ok (.getfield 95, 3) := by decide +kernel
theorem dX7_readTheWords_9 : decode cX7_readTheWords 9 = .ok (.iconst 4, 1) := by decide +kernel
theorem dX7_readTheWords_10 : decode cX7_readTheWords 10 = .ok (.if_icmp .ge 54, 3) := by decide +kernel
theorem dX7_readTheWords_13 : decode cX7_readTheWords 13 = .ok (.aload_n 0, 1) := by decide +kernel
theorem dX7_readTheWords_14 : decode cX7_readTheWords 14 = .ok (.iload_n 1, 1) := by decide +kernel
theorem dX7_readTheWords_15 : decode cX7_readTheWords 15 = .ok (.iconst 0, 1) := by decide +kernel
theorem dX7_readTheWords_16 : decode cX7_readTheWords 16 = .ok (.bipush 9, 2) := by decide +kernel
theorem dX7_readTheWords_18 : decode cX7_readTheWords 18 = .ok (.invokevirtual 123, 3) := by decide +kernel
theorem dX7_readTheWords_21 : decode cX7_readTheWords 21 = .ok (.istore_n 2, 1) := by decide +kernel
theorem dX7_readTheWords_22 : decode cX7_readTheWords 22 = .ok (.iload_n 2, 1) := by decide +kernel
theorem dX7_readTheWords_23 : decode cX7_readTheWords 23 = .ok (.bipush (-9), 2) := by decide +kernel
theorem dX7_readTheWords_25 : decode cX7_readTheWords 25 = .ok (.if_icmp .ne 16, 3) := by decide +kernel
theorem dX7_readTheWords_28 : decode cX7_readTheWords 28 = .ok (.aload_n 0, 1) := by decide +kernel
theorem dX7_readTheWords_29 : decode cX7_readTheWords 29 = .ok (.getfield 95, 3) := by decide +kernel
theorem dX7_readTheWords_32 : decode cX7_readTheWords 32 = .ok (.ifCond .le 7, 3) := by decide +kernel
theorem dX7_readTheWords_35 : decode cX7_readTheWords 35 = .ok (.iconst 1, 1) := by decide +kernel
theorem dX7_readTheWords_36 : decode cX7_readTheWords 36 = .ok (.goto 4, 3) := by decide +kernel
theorem dX7_readTheWords_39 : decode cX7_readTheWords 39 = .ok (.iconst 0, 1) := by decide +kernel
theorem dX7_readTheWords_40 : decode cX7_readTheWords 40 = .ok (.ireturn, 1) := by decide +kernel
theorem dX7_readTheWords_41 : decode cX7_readTheWords 41 = .ok (.aload_n 0, 1) := by decide +kernel
theorem dX7_readTheWords_42 : decode cX7_readTheWords 42 = .ok (.getfield 31, 3) := by decide +kernel
theorem dX7_readTheWords_45 : decode cX7_readTheWords 45 = .ok (.aload_n 0, 1) := by decide +kernel
theorem dX7_readTheWords_46 : decode cX7_readTheWords 46 = .ok (.getfield 95, 3) := by decide +kernel
theorem dX7_readTheWords_49 : decode cX7_readTheWords 49 = .ok (.iload_n 2, 1) := by decide +kernel
theorem dX7_readTheWords_50 : decode cX7_readTheWords 50 = .ok (.iastore, 1) := by decide +kernel
theorem dX7_readTheWords_51 : decode cX7_readTheWords 51 = .ok (.aload_n 0, 1) := by decide +kernel
theorem dX7_readTheWords_52 : decode cX7_readTheWords 52 = .ok (.dup, 1) := by decide +kernel
theorem dX7_readTheWords_53 : decode cX7_readTheWords 53 = .ok (.getfield 95, 3) := by decide +kernel
theorem dX7_readTheWords_56 : decode cX7_readTheWords 56 = .ok (.iconst 1, 1) := by decide +kernel
theorem dX7_readTheWords_57 : decode cX7_readTheWords 57 = .ok (.iadd, 1) := by decide +kernel
theorem dX7_readTheWords_58 : decode cX7_readTheWords 58 = .ok (.putfield 95, 3) := by decide +kernel
theorem dX7_readTheWords_61 : decode cX7_readTheWords 61 = .ok (.goto (-56), 3) := by decide +kernel
theorem dX7_readTheWords_64 : decode cX7_readTheWords 64 = .ok (.iconst 1, 1) := by decide +kernel
theorem dX7_readTheWords_65 : decode cX7_readTheWords 65 = .ok (.ireturn, 1) := by decide +kernel
set_option maxRecDepth 20000 in
theorem ggX7_readGallery_X7_digit : GoodIn wsX7_readGallery wsX7_digit := goodIn_r _ [9, 1, 2, 10, 11, 8, 12, 13, 14, 15, 16, 17, 18, 19, 20, 21, 22, 23, 24, 25, 26, 27, 28, 29, 30, 31, 32, 33, 34, 35, 36, 37, 38, 39, 40, 41] (by decide +kernel) (by decide +kernel)
set_option maxRecDepth 20000 in
theorem gX7_readGallery_X7_digit : GoodIn wsX7_readGallery (wsV RX7 123 RX7 yX7_digit wsX7_digit) := goodIn_app (goodIn_of _ (by decide +kernel)) ggX7_readGallery_X7_digit
theorem dX7_readGallery_0 : decode cX7_readGallery 0 = .ok (.aload_n 0, 1) := by decide +kernel
theorem dX7_readGallery_1 : decode cX7_readGallery 1 = .ok (.getfield 71, 3) := by decide +kernel
theorem dX7_readGallery_4 : decode cX7_readGallery 4 = .ok (.iload_n 1, 1) := by decide +kernel
theorem dX7_readGallery_5 : decode cX7_readGallery 5 = .ok (.if_icmp .ge 15, 3) := by decide +kernel
theorem dX7_readGallery_8 : decode cX7_readGallery 8 = .ok (.aload_n 0, 1) := by decide +kernel
theorem dX7_readGallery_9 : decode cX7_readGallery 9 = .ok (.getfield 16, 3) := by decide +kernel
theorem dX7_readGallery_12 : decode cX7_readGallery 12 = .ok (.aload_n 0, 1) := by decide +kernel
theorem dX7_readGallery_13 : decode cX7_readGallery 13 = .ok (.getfield 71, 3) := by decide +kernel
theorem dX7_readGallery_16 : decode cX7_readGallery 16 = .ok (.iaload, 1) := by decide +kernel
theorem dX7_readGallery_17 : decode cX7_readGallery 17 = .ok (.goto 4, 3) := by decide +kernel
theorem dX7_readGallery_20 : decode cX7_readGallery 20 = .ok (.iconst 0, 1) := by decide +kernel
theorem dX7_readGallery_21 : decode cX7_readGallery 21 = .ok (.istore_n 2, 1) := by decide +kernel
theorem dX7_readGallery_22 : decode cX7_readGallery 22 = .ok (.iconst 4, 1) := by decide +kernel
theorem dX7_readGallery_23 : decode cX7_readGallery 23 = .ok (.aload_n 0, 1) := by decide +kernel
theorem dX7_readGallery_24 : decode cX7_readGallery 24 = .ok (.getfield 98, 3) := by decide +kernel
theorem dX7_readGallery_27 : decode cX7_readGallery 27 = .ok (.imul, 1) := by decide +kernel
theorem dX7_readGallery_28 : decode cX7_readGallery 28 = .ok (.istore_n 3, 1) := by decide +kernel
theorem dX7_readGallery_29 : decode cX7_readGallery 29 = .ok (.aload_n 0, 1) := by decide +kernel
theorem dX7_readGallery_30 : decode cX7_readGallery 30 = .ok (.getfield 34, 3) := by decide +kernel
theorem dX7_readGallery_33 : decode cX7_readGallery 33 = .ok (.iload_n 3, 1) := by decide +kernel
theorem dX7_readGallery_34 : decode cX7_readGallery 34 = .ok (.iload_n 2, 1) := by decide +kernel
theorem dX7_readGallery_35 : decode cX7_readGallery 35 = .ok (.bipush 103, 2) := by decide +kernel
theorem dX7_readGallery_37 : decode cX7_readGallery 37 = .ok (.if_icmp .ne 7, 3) := by decide +kernel
theorem dX7_readGallery_40 : decode cX7_readGallery 40 = .ok (.iconst 0, 1) := by decide +kernel
theorem dX7_readGallery_41 : decode cX7_readGallery 41 = .ok (.goto 25, 3) := by decide +kernel
theorem dX7_readGallery_44 : decode cX7_readGallery 44 = .ok (.iload_n 2, 1) := by decide +kernel
theorem dX7_readGallery_45 : decode cX7_readGallery 45 = .ok (.bipush 110, 2) := by decide +kernel
theorem dX7_readGallery_47 : decode cX7_readGallery 47 = .ok (.if_icmp .ne 7, 3) := by decide +kernel
theorem dX7_readGallery_50 : decode cX7_readGallery 50 = .ok (.iconst 1, 1) := by decide +kernel
theorem dX7_readGallery_51 : decode cX7_readGallery 51 = .ok (.goto 15, 3) := by decide +kernel
theorem dX7_readGallery_54 : decode cX7_readGallery 54 = .ok (.iload_n 2, 1) := by decide +kernel
theorem dX7_readGallery_55 : decode cX7_readGallery 55 = .ok (.bipush 98, 2) := by decide +kernel
theorem dX7_readGallery_57 : decode cX7_readGallery 57 = .ok (.if_icmp .ne 7, 3) := by decide +kernel
theorem dX7_readGallery_60 : decode cX7_readGallery 60 = .ok (.iconst 2, 1) := by decide +kernel
theorem dX7_readGallery_61 : decode cX7_readGallery 61 = .ok (.goto 5, 3) := by decide +kernel
theorem dX7_readGallery_64 : decode cX7_readGallery 64 = .ok (.bipush (-9), 2) := by decide +kernel
theorem dX7_readGallery_66 : decode cX7_readGallery 66 = .ok (.iastore, 1) := by decide +kernel
theorem dX7_readGallery_67 : decode cX7_readGallery 67 = .ok (.aload_n 0, 1) := by decide +kernel
theorem dX7_readGallery_68 : decode cX7_readGallery 68 = .ok (.getfield 34, 3) := by decide +kernel
theorem dX7_readGallery_71 : decode cX7_readGallery 71 = .ok (.iload_n 3, 1) := by decide +kernel
theorem dX7_readGallery_72 : decode cX7_readGallery 72 = .ok (.iaload, 1) := by decide +kernel
theorem dX7_readGallery_73 : decode cX7_readGallery 73 = .ok (.bipush (-9), 2) := by decide +kernel
theorem dX7_readGallery_75 : decode cX7_readGallery 75 = .ok (.if_icmp .ne 5, 3) := by decide +kernel
theorem dX7_readGallery_78 : decode cX7_readGallery 78 = .ok (.iconst 0, 1) := by decide +kernel
theorem dX7_readGallery_79 : decode cX7_readGallery 79 = .ok (.ireturn, 1) := by decide +kernel
theorem dX7_readGallery_80 : decode cX7_readGallery 80 = .ok (.aload_n 0, 1) := by decide +kernel
theorem dX7_readGallery_81 : decode cX7_readGallery 81 = .ok (.dup, 1) := by decide +kernel
theorem dX7_readGallery_82 : decode cX7_readGallery 82 = .ok (.getfield 71, 3) := by decide +kernel
theorem dX7_readGallery_85 : decode cX7_readGallery 85 = .ok (.iconst 1, 1) := by decide +kernel
theorem dX7_readGallery_86 : decode cX7_readGallery 86 = .ok (.iadd, 1) := by decide +kernel
theorem dX7_readGallery_87 : decode cX7_readGallery 87 = .ok (.putfield 71, 3) := by decide +kernel
theorem dX7_readGallery_90 : decode cX7_readGallery 90 = .ok (.aload_n 0, 1) := by decide +kernel
theorem dX7_readGallery_91 : decode cX7_readGallery 91 = .ok (.getfield 34, 3) := by decide +kernel
theorem dX7_readGallery_94 : decode cX7_readGallery 94 = .ok (.iload_n 3, 1) := by decide +kernel
theorem dX7_readGallery_95 : decode cX7_readGallery 95 = .ok (.iconst 1, 1) := by decide +kernel
theorem dX7_readGallery_96 : decode cX7_readGallery 96 = .ok (.iadd, 1) := by decide +kernel
theorem dX7_readGallery_97 : decode cX7_readGallery 97 = .ok (.aload_n 0, 1) := by decide +kernel
theorem dX7_readGallery_98 : decode cX7_readGallery 98 = .ok (.iload_n 1, 1) := by decide +kernel
theorem dX7_readGallery_99 : decode cX7_readGallery 99 = .ok (.iconst 0, 1) := by decide +kernel
theorem dX7_readGallery_100 : decode cX7_readGallery 100 = .ok (.bipush 9, 2) := by decide +kernel
theorem dX7_readGallery_102 : decode cX7_readGallery 102 = .ok (.invokevirtual 123, 3) := by decide +kernel
theorem dX7_readGallery_105 : decode cX7_readGallery 105 = .ok (.iastore, 1) := by decide +kernel
theorem dX7_readGallery_106 : decode cX7_readGallery 106 = .ok (.aload_n 0, 1) := by decide +kernel
theorem dX7_readGallery_107 : decode cX7_readGallery 107 = .ok (.getfield 34, 3) := by decide +kernel
theorem dX7_readGallery_110 : decode cX7_readGallery 110 = .ok (.iload_n 3, 1) := by decide +kernel
theorem dX7_readGallery_111 : decode cX7_readGallery 111 = .ok (.iconst 1, 1) := by decide +kernel
theorem dX7_readGallery_112 : decode cX7_readGallery 112 = .ok (.iadd, 1) := by decide +kernel
theorem dX7_readGallery_113 : decode cX7_readGallery 113 = .ok (.iaload, 1) := by decide +kernel
theorem dX7_readGallery_114 : decode cX7_readGallery 114 = .ok (.bipush (-9), 2) := by decide +kernel
theorem dX7_readGallery_116 : decode cX7_readGallery 116 = .ok (.if_icmp .ne 5, 3) := by decide +kernel
theorem dX7_readGallery_119 : decode cX7_readGallery 119 = .ok (.iconst 0, 1) := by decide +kernel
theorem dX7_readGallery_120 : decode cX7_readGallery 120 = .ok (.ireturn, 1) := by decide +kernel
theorem dX7_readGallery_121 : decode cX7_readGallery 121 = .ok (.aload_n 0, 1) := by decide +kernel
theorem dX7_readGallery_122 : decode cX7_readGallery 122 = .ok (.getfield 34, 3) := by decide +kernel
theorem dX7_readGallery_125 : decode cX7_readGallery 125 = .ok (.iload_n 3, 1) := by decide +kernel
theorem dX7_readGallery_126 : decode cX7_readGallery 126 = .ok (.iconst 2, 1) := by decide +kernel
theorem dX7_readGallery_127 : decode cX7_readGallery 127 = .ok (.iadd, 1) := by decide +kernel
theorem dX7_readGallery_128 : decode cX7_readGallery 128 = .ok (.aload_n 0, 1) := by decide +kernel
theorem dX7_readGallery_129 : decode cX7_readGallery 129 = .ok (.iload_n 1, 1) := by decide +kernel
theorem dX7_readGallery_130 : decode cX7_readGallery 130 = .ok (.iconst 1, 1) := by decide +kernel
theorem dX7_readGallery_131 : decode cX7_readGallery 131 = .ok (.bipush 9, 2) := by decide +kernel
theorem dX7_readGallery_133 : decode cX7_readGallery 133 = .ok (.invokevirtual 123, 3) := by decide +kernel
theorem dX7_readGallery_136 : decode cX7_readGallery 136 = .ok (.iastore, 1) := by decide +kernel
theorem dX7_readGallery_137 : decode cX7_readGallery 137 = .ok (.aload_n 0, 1) := by decide +kernel
theorem dX7_readGallery_138 : decode cX7_readGallery 138 = .ok (.getfield 34, 3) := by decide +kernel
theorem dX7_readGallery_141 : decode cX7_readGallery 141 = .ok (.iload_n 3, 1) := by decide +kernel
theorem dX7_readGallery_142 : decode cX7_readGallery 142 = .ok (.iconst 2, 1) := by decide +kernel
theorem dX7_readGallery_143 : decode cX7_readGallery 143 = .ok (.iadd, 1) := by decide +kernel
theorem dX7_readGallery_144 : decode cX7_readGallery 144 = .ok (.iaload, 1) := by decide +kernel
theorem dX7_readGallery_145 : decode cX7_readGallery 145 = .ok (.bipush (-9), 2) := by decide +kernel
theorem dX7_readGallery_147 : decode cX7_readGallery 147 = .ok (.if_icmp .ne 5, 3) := by decide +kernel
theorem dX7_readGallery_150 : decode cX7_readGallery 150 = .ok (.iconst 0, 1) := by decide +kernel
theorem dX7_readGallery_151 : decode cX7_readGallery 151 = .ok (.ireturn, 1) := by decide +kernel
theorem dX7_readGallery_152 : decode cX7_readGallery 152 = .ok (.aload_n 0, 1) := by decide +kernel
theorem dX7_readGallery_153 : decode cX7_readGallery 153 = .ok (.getfield 34, 3) := by decide +kernel
theorem dX7_readGallery_156 : decode cX7_readGallery 156 = .ok (.iload_n 3, 1) := by decide +kernel
theorem dX7_readGallery_157 : decode cX7_readGallery 157 = .ok (.iconst 3, 1) := by decide +kernel
theorem dX7_readGallery_158 : decode cX7_readGallery 158 = .ok (.iadd, 1) := by decide +kernel
theorem dX7_readGallery_159 : decode cX7_readGallery 159 = .ok (.aload_n 0, 1) := by decide +kernel
theorem dX7_readGallery_160 : decode cX7_readGallery 160 = .ok (.iload_n 1, 1) := by decide +kernel
theorem dX7_readGallery_161 : decode cX7_readGallery 161 = .ok (.iconst 0, 1) := by decide +kernel
theorem dX7_readGallery_162 : decode cX7_readGallery 162 = .ok (.iconst 1, 1) := by decide +kernel
theorem dX7_readGallery_163 : decode cX7_readGallery 163 = .ok (.invokevirtual 123, 3) := by decide +kernel
theorem dX7_readGallery_166 : decode cX7_readGallery 166 = .ok (.iastore, 1) := by decide +kernel
theorem dX7_readGallery_167 : decode cX7_readGallery 167 = .ok (.aload_n 0, 1) := by decide +kernel
theorem dX7_readGallery_168 : decode cX7_readGallery 168 = .ok (.dup, 1) := by decide +kernel
theorem dX7_readGallery_169 : decode cX7_readGallery 169 = .ok (.getfield 98, 3) := by decide +kernel
theorem dX7_readGallery_172 : decode cX7_readGallery 172 = .ok (.iconst 1, 1) := by decide +kernel
theorem dX7_readGallery_173 : decode cX7_readGallery 173 = .ok (.iadd, 1) := by decide +kernel
theorem dX7_readGallery_174 : decode cX7_readGallery 174 = .ok (.putfield 98, 3) := by decide +kernel
theorem dX7_readGallery_177 : decode cX7_readGallery 177 = .ok (.aload_n 0, 1) := by decide +kernel
theorem dX7_readGallery_178 : decode cX7_readGallery 178 = .ok (.getfield 34, 3) := by decide +kernel
theorem dX7_readGallery_181 : decode cX7_readGallery 181 = .ok (.iload_n 3, 1) := by decide +kernel
theorem dX7_readGallery_182 : decode cX7_readGallery 182 = .ok (.iconst 3, 1) := by decide +kernel
theorem dX7_readGallery_183 : decode cX7_readGallery 183 = .ok (.iadd, 1) := by decide +kernel
theorem dX7_readGallery_184 : decode cX7_readGallery 184 = .ok (.iaload, 1) := by decide +kernel
theorem dX7_readGallery_185 : decode cX7_readGallery 185 = .ok (.bipush (-9), 2) := by decide +kernel
theorem dX7_readGallery_187 : decode cX7_readGallery 187 = .ok (.if_icmp .eq 7, 3) := by decide +kernel
theorem dX7_readGallery_190 : decode cX7_readGallery 190 = .ok (.iconst 1, 1) := by decide +kernel
theorem dX7_readGallery_191 : decode cX7_readGallery 191 = .ok (.goto 4, 3) := by decide +kernel
theorem dX7_readGallery_194 : decode cX7_readGallery 194 = .ok (.iconst 0, 1) := by decide +kernel
theorem dX7_readGallery_195 : decode cX7_readGallery 195 = .ok (.ireturn, 1) := by decide +kernel
theorem dX7_bearsBy_0 : decode cX7_bearsBy 0 = .ok (.iload_n 0, 1) := by decide +kernel
theorem dX7_bearsBy_1 : decode cX7_bearsBy 1 = .ok (.ifCond .ne 7, 3) := by decide +kernel
theorem dX7_bearsBy_4 : decode cX7_bearsBy 4 = .ok (.iload_n 1, 1) := by decide +kernel
theorem dX7_bearsBy_5 : decode cX7_bearsBy 5 = .ok (.goto 17, 3) := by decide +kernel
theorem dX7_bearsBy_8 : decode cX7_bearsBy 8 = .ok (.iload_n 0, 1) := by decide +kernel
theorem dX7_bearsBy_9 : decode cX7_bearsBy 9 = .ok (.iconst 1, 1) := by decide +kernel
theorem dX7_bearsBy_10 : decode cX7_bearsBy 10 = .ok (.if_icmp .ne 9, 3) := by decide +kernel
theorem dX7_bearsBy_13 : decode cX7_bearsBy 13 = .ok (.iload_n 1, 1) := by decide +kernel
theorem dX7_bearsBy_14 : decode cX7_bearsBy 14 = .ok (.iconst 1, 1) := by decide +kernel
theorem dX7_bearsBy_15 : decode cX7_bearsBy 15 = .ok (.isub, 1) := by decide +kernel
theorem dX7_bearsBy_16 : decode cX7_bearsBy 16 = .ok (.goto 6, 3) := by decide +kernel
theorem dX7_bearsBy_19 : decode cX7_bearsBy 19 = .ok (.iconst 2, 1) := by decide +kernel
theorem dX7_bearsBy_20 : decode cX7_bearsBy 20 = .ok (.iload_n 1, 1) := by decide +kernel
theorem dX7_bearsBy_21 : decode cX7_bearsBy 21 = .ok (.imul, 1) := by decide +kernel
theorem dX7_bearsBy_22 : decode cX7_bearsBy 22 = .ok (.ireturn, 1) := by decide +kernel
set_option maxRecDepth 20000 in
theorem ggX7_bearsOf_X7_bearsBy : GoodIn wsX7_bearsOf wsX7_bearsBy := goodIn_r _ [6] (by decide +kernel) (by decide +kernel)
set_option maxRecDepth 20000 in
theorem gX7_bearsOf_X7_bearsBy : GoodIn wsX7_bearsOf (va_wsS RX7 127 yX7_bearsBy wsX7_bearsBy) := goodIn_app (goodIn_of _ (by decide +kernel)) ggX7_bearsOf_X7_bearsBy
theorem dX7_bearsOf_0 : decode cX7_bearsOf 0 = .ok (.aload_n 0, 1) := by decide +kernel
theorem dX7_bearsOf_1 : decode cX7_bearsOf 1 = .ok (.getfield 22, 3) := by decide +kernel
theorem dX7_bearsOf_4 : decode cX7_bearsOf 4 = .ok (.iload_n 1, 1) := by decide +kernel
theorem dX7_bearsOf_5 : decode cX7_bearsOf 5 = .ok (.iaload, 1) := by decide +kernel
theorem dX7_bearsOf_6 : decode cX7_bearsOf 6 = .ok (.aload_n 0, 1) := by decide +kernel
theorem dX7_bearsOf_7 : decode cX7_bearsOf 7 = .ok (.getfield 28, 3) := by decide +kernel
theorem dX7_bearsOf_10 : decode cX7_bearsOf 10 = .ok (.iload_n 1, 1) := by decide +kernel
theorem dX7_bearsOf_11 : decode cX7_bearsOf 11 = .ok (.iaload, 1) := by decide +kernel
theorem dX7_bearsOf_12 : decode cX7_bearsOf 12 = .ok (.invokestatic 127, 3) := by decide +kernel
theorem dX7_bearsOf_15 : decode cX7_bearsOf 15 = .ok (.ireturn, 1) := by decide +kernel
theorem dX7_isDoor_0 : decode cX7_isDoor 0 = .ok (.iload_n 1, 1) := by decide +kernel
theorem dX7_isDoor_1 : decode cX7_isDoor 1 = .ok (.ifCond .lt 17, 3) := by decide +kernel
theorem dX7_isDoor_4 : decode cX7_isDoor 4 = .ok (.iload_n 1, 1) := by decide +kernel
theorem dX7_isDoor_5 : decode cX7_isDoor 5 = .ok (.aload_n 0, 1) := by decide +kernel
theorem dX7_isDoor_6 : decode cX7_isDoor 6 = .ok (.getfield 65, 3) := by decide +kernel
theorem dX7_isDoor_9 : decode cX7_isDoor 9 = .ok (.iconst 1, 1) := by decide +kernel
theorem dX7_isDoor_10 : decode cX7_isDoor 10 = .ok (.isub, 1) := by decide +kernel
theorem dX7_isDoor_11 : decode cX7_isDoor 11 = .ok (.if_icmp .ge 7, 3) := by decide +kernel
theorem dX7_isDoor_14 : decode cX7_isDoor 14 = .ok (.iconst 1, 1) := by decide +kernel
theorem dX7_isDoor_15 : decode cX7_isDoor 15 = .ok (.goto 4, 3) := by decide +kernel
theorem dX7_isDoor_18 : decode cX7_isDoor 18 = .ok (.iconst 0, 1) := by decide +kernel
theorem dX7_isDoor_19 : decode cX7_isDoor 19 = .ok (.ireturn, 1) := by decide +kernel
set_option maxRecDepth 20000 in
theorem ggX7_ofGallery_X7_isGallery : GoodIn wsX7_ofGallery wsX7_isGallery := goodIn_r _ [10, 11, 23, 24, 25, 26, 27, 28, 29, 30, 31, 32, 33, 34, 35, 36, 37, 38, 39, 40, 41, 42, 43, 44, 45, 46, 47, 48, 49, 50, 51] (by decide +kernel) (by decide +kernel)
set_option maxRecDepth 20000 in
theorem gX7_ofGallery_X7_isGallery : GoodIn wsX7_ofGallery (wsV RX7 131 RX7 yX7_isGallery wsX7_isGallery) := goodIn_app (goodIn_of _ (by decide +kernel)) ggX7_ofGallery_X7_isGallery
set_option maxRecDepth 20000 in
theorem ggX7_ofGallery_X7_bearsOf : GoodIn wsX7_ofGallery wsX7_bearsOf := goodIn_r _ [15, 1, 3, 16, 17, 9, 18, 23, 24, 25, 26, 27, 28, 29, 30, 31, 32, 33, 34, 35, 36, 37, 38, 39, 40, 41, 42, 43, 44, 45, 46, 47, 48, 49, 50, 51] (by decide +kernel) (by decide +kernel)
set_option maxRecDepth 20000 in
theorem gX7_ofGallery_X7_bearsOf : GoodIn wsX7_ofGallery (wsV RX7 134 RX7 yX7_bearsOf wsX7_bearsOf) := goodIn_app (goodIn_of _ (by decide +kernel)) ggX7_ofGallery_X7_bearsOf
set_option maxRecDepth 20000 in
theorem ggX7_ofGallery_X7_isDoor : GoodIn wsX7_ofGallery wsX7_isDoor := goodIn_r _ [22, 11, 23, 24, 25, 26, 27, 28, 29, 30, 31, 32, 33, 34, 35, 36, 37, 38, 39, 40, 41, 42, 43, 44, 45, 46, 47, 48, 49, 50, 51] (by decide +kernel) (by decide +kernel)
set_option maxRecDepth 20000 in
theorem gX7_ofGallery_X7_isDoor : GoodIn wsX7_ofGallery (wsV RX7 137 RX7 yX7_isDoor wsX7_isDoor) := goodIn_app (goodIn_of _ (by decide +kernel)) ggX7_ofGallery_X7_isDoor
theorem dX7_ofGallery_0 : decode cX7_ofGallery 0 = .ok (.aload_n 0, 1) := by decide +kernel
theorem dX7_ofGallery_1 : decode cX7_ofGallery 1 = .ok (.iload_n 1, 1) := by decide +kernel
theorem dX7_ofGallery_2 : decode cX7_ofGallery 2 = .ok (.invokevirtual 131, 3) := by decide +kernel
theorem dX7_ofGallery_5 : decode cX7_ofGallery 5 = .ok (.ifCond .ne 5, 3) := by decide +kernel
theorem dX7_ofGallery_8 : decode cX7_ofGallery 8 = .ok (.iconst (-1), 1) := by decide +kernel
theorem dX7_ofGallery_9 : decode cX7_ofGallery 9 = .ok (.ireturn, 1) := by decide +kernel
theorem dX7_ofGallery_10 : decode cX7_ofGallery 10 = .ok (.iload_n 2, 1) := by decide +kernel
theorem dX7_ofGallery_11 : decode cX7_ofGallery 11 = .ok (.tableswitch 95 0 5 #[37, 44, 51, 58, 64, 73], 37) := by decide +kernel
theorem dX7_ofGallery_48 : decode cX7_ofGallery 48 = .ok (.aload_n 0, 1) := by decide +kernel
theorem dX7_ofGallery_49 : decode cX7_ofGallery 49 = .ok (.getfield 22, 3) := by decide +kernel
theorem dX7_ofGallery_52 : decode cX7_ofGallery 52 = .ok (.iload_n 1, 1) := by decide +kernel
theorem dX7_ofGallery_53 : decode cX7_ofGallery 53 = .ok (.iaload, 1) := by decide +kernel
theorem dX7_ofGallery_54 : decode cX7_ofGallery 54 = .ok (.ireturn, 1) := by decide +kernel
theorem dX7_ofGallery_55 : decode cX7_ofGallery 55 = .ok (.aload_n 0, 1) := by decide +kernel
theorem dX7_ofGallery_56 : decode cX7_ofGallery 56 = .ok (.getfield 25, 3) := by decide +kernel
theorem dX7_ofGallery_59 : decode cX7_ofGallery 59 = .ok (.iload_n 1, 1) := by decide +kernel
theorem dX7_ofGallery_60 : decode cX7_ofGallery 60 = .ok (.iaload, 1) := by decide +kernel
theorem dX7_ofGallery_61 : decode cX7_ofGallery 61 = .ok (.ireturn, 1) := by decide +kernel
theorem dX7_ofGallery_62 : decode cX7_ofGallery 62 = .ok (.aload_n 0, 1) := by decide +kernel
theorem dX7_ofGallery_63 : decode cX7_ofGallery 63 = .ok (.getfield 28, 3) := by decide +kernel
theorem dX7_ofGallery_66 : decode cX7_ofGallery 66 = .ok (.iload_n 1, 1) := by decide +kernel
theorem dX7_ofGallery_67 : decode cX7_ofGallery 67 = .ok (.iaload, 1) := by decide +kernel
theorem dX7_ofGallery_68 : decode cX7_ofGallery 68 = .ok (.ireturn, 1) := by decide +kernel
theorem dX7_ofGallery_69 : decode cX7_ofGallery 69 = .ok (.aload_n 0, 1) := by decide +kernel
theorem dX7_ofGallery_70 : decode cX7_ofGallery 70 = .ok (.iload_n 1, 1) := by decide +kernel
theorem dX7_ofGallery_71 : decode cX7_ofGallery 71 = .ok (.invokevirtual 134, 3) := by decide +kernel
theorem dX7_ofGallery_74 : decode cX7_ofGallery 74 = .ok (.ireturn, 1) := by decide +kernel
theorem dX7_ofGallery_75 : decode cX7_ofGallery 75 = .ok (.aload_n 0, 1) := by decide +kernel
theorem dX7_ofGallery_76 : decode cX7_ofGallery 76 = .ok (.getfield 107, 3) := by decide +kernel
theorem dX7_ofGallery_79 : decode cX7_ofGallery 79 = .ok (.iload_n 1, 1) := by decide +kernel
theorem dX7_ofGallery_80 : decode cX7_ofGallery 80 = .ok (.ishr, 1) := by decide +kernel
theorem dX7_ofGallery_81 : decode cX7_ofGallery 81 = .ok (.iconst 1, 1) := by decide +kernel
theorem dX7_ofGallery_82 : decode cX7_ofGallery 82 = .ok (.iand, 1) := by decide +kernel
theorem dX7_ofGallery_83 : decode cX7_ofGallery 83 = .ok (.ireturn, 1) := by decide +kernel
theorem dX7_ofGallery_84 : decode cX7_ofGallery 84 = .ok (.aload_n 0, 1) := by decide +kernel
theorem dX7_ofGallery_85 : decode cX7_ofGallery 85 = .ok (.iload_n 1, 1) := by decide +kernel
theorem dX7_ofGallery_86 : decode cX7_ofGallery 86 = .ok (.invokevirtual 137, 3) := by decide +kernel
theorem dX7_ofGallery_89 : decode cX7_ofGallery 89 = .ok (.ifCond .eq 14, 3) := by decide +kernel
theorem dX7_ofGallery_92 : decode cX7_ofGallery 92 = .ok (.aload_n 0, 1) := by decide +kernel
theorem dX7_ofGallery_93 : decode cX7_ofGallery 93 = .ok (.getfield 101, 3) := by decide +kernel
theorem dX7_ofGallery_96 : decode cX7_ofGallery 96 = .ok (.iload_n 1, 1) := by decide +kernel
theorem dX7_ofGallery_97 : decode cX7_ofGallery 97 = .ok (.ishr, 1) := by decide +kernel
theorem dX7_ofGallery_98 : decode cX7_ofGallery 98 = .ok (.iconst 1, 1) := by decide +kernel
theorem dX7_ofGallery_99 : decode cX7_ofGallery 99 = .ok (.iand, 1) := by decide +kernel
theorem dX7_ofGallery_100 : decode cX7_ofGallery 100 = .ok (.goto 5, 3) := by decide +kernel
theorem dX7_ofGallery_103 : decode cX7_ofGallery 103 = .ok (.bipush (-9), 2) := by decide +kernel
theorem dX7_ofGallery_105 : decode cX7_ofGallery 105 = .ok (.ireturn, 1) := by decide +kernel
theorem dX7_ofGallery_106 : decode cX7_ofGallery 106 = .ok (.bipush (-2), 2) := by decide +kernel
theorem dX7_ofGallery_108 : decode cX7_ofGallery 108 = .ok (.ireturn, 1) := by decide +kernel
set_option maxRecDepth 20000 in
theorem ggX7_bad_X7_isWord : GoodIn wsX7_bad wsX7_isWord := goodIn_r _ [6, 7, 8, 9, 10, 11, 12, 13, 14, 15, 16, 17, 18, 19, 20, 21, 22, 23, 24, 25, 26, 27, 28, 29, 30, 31, 32, 33, 34, 35, 36] (by decide +kernel) (by decide +kernel)
set_option maxRecDepth 20000 in
theorem gX7_bad_X7_isWord : GoodIn wsX7_bad (wsV RX7 140 RX7 yX7_isWord wsX7_isWord) := goodIn_app (goodIn_of _ (by decide +kernel)) ggX7_bad_X7_isWord
theorem dX7_bad_0 : decode cX7_bad 0 = .ok (.aload_n 0, 1) := by decide +kernel
theorem dX7_bad_1 : decode cX7_bad 1 = .ok (.iload_n 1, 1) := by decide +kernel
theorem dX7_bad_2 : decode cX7_bad 2 = .ok (.invokevirtual 140, 3) := by decide +kernel
theorem dX7_bad_5 : decode cX7_bad 5 = .ok (.ifCond .eq 12, 3) := by decide +kernel
theorem dX7_bad_8 : decode cX7_bad 8 = .ok (.aload_n 0, 1) := by decide +kernel
theorem dX7_bad_9 : decode cX7_bad 9 = .ok (.getfield 19, 3) := by decide +kernel
theorem dX7_bad_12 : decode cX7_bad 12 = .ok (.iload_n 1, 1) := by decide +kernel
theorem dX7_bad_13 : decode cX7_bad 13 = .ok (.iaload, 1) := by decide +kernel
theorem dX7_bad_14 : decode cX7_bad 14 = .ok (.goto 4, 3) := by decide +kernel
theorem dX7_bad_17 : decode cX7_bad 17 = .ok (.iconst (-1), 1) := by decide +kernel
theorem dX7_bad_18 : decode cX7_bad 18 = .ok (.ireturn, 1) := by decide +kernel
set_option maxRecDepth 20000 in
theorem ggX7_foul_X7_isGallery : GoodIn wsX7_foul wsX7_isGallery := goodIn_r _ [6, 7, 11, 12, 13, 14, 15, 16, 17, 18, 19, 20, 21, 22, 23, 24, 25, 26, 27, 28, 29, 30, 31, 32, 33, 34, 35, 36, 37, 38, 39] (by decide +kernel) (by decide +kernel)
set_option maxRecDepth 20000 in
theorem gX7_foul_X7_isGallery : GoodIn wsX7_foul (wsV RX7 131 RX7 yX7_isGallery wsX7_isGallery) := goodIn_app (goodIn_of _ (by decide +kernel)) ggX7_foul_X7_isGallery
set_option maxRecDepth 20000 in
theorem ggX7_foul_X7_within : GoodIn wsX7_foul wsX7_within := goodIn_r _ [10] (by decide +kernel) (by decide +kernel)
set_option maxRecDepth 20000 in
theorem gX7_foul_X7_within : GoodIn wsX7_foul (va_wsS RX7 61 yX7_within wsX7_within) := goodIn_app (goodIn_of _ (by decide +kernel)) ggX7_foul_X7_within
theorem dX7_foul_0 : decode cX7_foul 0 = .ok (.aload_n 0, 1) := by decide +kernel
theorem dX7_foul_1 : decode cX7_foul 1 = .ok (.iload_n 1, 1) := by decide +kernel
theorem dX7_foul_2 : decode cX7_foul 2 = .ok (.invokevirtual 131, 3) := by decide +kernel
theorem dX7_foul_5 : decode cX7_foul 5 = .ok (.ifCond .ne 5, 3) := by decide +kernel
theorem dX7_foul_8 : decode cX7_foul 8 = .ok (.iconst (-1), 1) := by decide +kernel
theorem dX7_foul_9 : decode cX7_foul 9 = .ok (.ireturn, 1) := by decide +kernel
theorem dX7_foul_10 : decode cX7_foul 10 = .ok (.iload_n 2, 1) := by decide +kernel
theorem dX7_foul_11 : decode cX7_foul 11 = .ok (.iconst 0, 1) := by decide +kernel
theorem dX7_foul_12 : decode cX7_foul 12 = .ok (.bipush 40, 2) := by decide +kernel
theorem dX7_foul_14 : decode cX7_foul 14 = .ok (.invokestatic 61, 3) := by decide +kernel
theorem dX7_foul_17 : decode cX7_foul 17 = .ok (.ifCond .ne 6, 3) := by decide +kernel
theorem dX7_foul_20 : decode cX7_foul 20 = .ok (.bipush (-2), 2) := by decide +kernel
theorem dX7_foul_22 : decode cX7_foul 22 = .ok (.ireturn, 1) := by decide +kernel
theorem dX7_foul_23 : decode cX7_foul 23 = .ok (.aload_n 0, 1) := by decide +kernel
theorem dX7_foul_24 : decode cX7_foul 24 = .ok (.getfield 25, 3) := by decide +kernel
theorem dX7_foul_27 : decode cX7_foul 27 = .ok (.iload_n 1, 1) := by decide +kernel
theorem dX7_foul_28 : decode cX7_foul 28 = .ok (.iaload, 1) := by decide +kernel
theorem dX7_foul_29 : decode cX7_foul 29 = .ok (.istore_n 3, 1) := by decide +kernel
theorem dX7_foul_30 : decode cX7_foul 30 = .ok (.aload_n 0, 1) := by decide +kernel
theorem dX7_foul_31 : decode cX7_foul 31 = .ok (.getfield 25, 3) := by decide +kernel
theorem dX7_foul_34 : decode cX7_foul 34 = .ok (.iload_n 1, 1) := by decide +kernel
theorem dX7_foul_35 : decode cX7_foul 35 = .ok (.iload_n 2, 1) := by decide +kernel
theorem dX7_foul_36 : decode cX7_foul 36 = .ok (.iastore, 1) := by decide +kernel
theorem dX7_foul_37 : decode cX7_foul 37 = .ok (.iload_n 3, 1) := by decide +kernel
theorem dX7_foul_38 : decode cX7_foul 38 = .ok (.ireturn, 1) := by decide +kernel
set_option maxRecDepth 20000 in
theorem ggX7_breed_X7_isGallery : GoodIn wsX7_breed wsX7_isGallery := goodIn_r _ [6, 7, 11, 12, 13, 14, 15, 16, 17, 18, 19, 20, 21, 22, 23, 24, 25, 26, 27, 28, 29, 30, 31, 32, 33, 34, 35, 36, 37, 38, 39] (by decide +kernel) (by decide +kernel)
set_option maxRecDepth 20000 in
theorem gX7_breed_X7_isGallery : GoodIn wsX7_breed (wsV RX7 131 RX7 yX7_isGallery wsX7_isGallery) := goodIn_app (goodIn_of _ (by decide +kernel)) ggX7_breed_X7_isGallery
set_option maxRecDepth 20000 in
theorem ggX7_breed_X7_within : GoodIn wsX7_breed wsX7_within := goodIn_r _ [10] (by decide +kernel) (by decide +kernel)
set_option maxRecDepth 20000 in
theorem gX7_breed_X7_within : GoodIn wsX7_breed (va_wsS RX7 61 yX7_within wsX7_within) := goodIn_app (goodIn_of _ (by decide +kernel)) ggX7_breed_X7_within
theorem dX7_breed_0 : decode cX7_breed 0 = .ok (.aload_n 0, 1) := by decide +kernel
theorem dX7_breed_1 : decode cX7_breed 1 = .ok (.iload_n 1, 1) := by decide +kernel
theorem dX7_breed_2 : decode cX7_breed 2 = .ok (.invokevirtual 131, 3) := by decide +kernel
theorem dX7_breed_5 : decode cX7_breed 5 = .ok (.ifCond .ne 5, 3) := by decide +kernel
theorem dX7_breed_8 : decode cX7_breed 8 = .ok (.iconst (-1), 1) := by decide +kernel
theorem dX7_breed_9 : decode cX7_breed 9 = .ok (.ireturn, 1) := by decide +kernel
theorem dX7_breed_10 : decode cX7_breed 10 = .ok (.iload_n 2, 1) := by decide +kernel
theorem dX7_breed_11 : decode cX7_breed 11 = .ok (.iconst 1, 1) := by decide +kernel
theorem dX7_breed_12 : decode cX7_breed 12 = .ok (.bipush 9, 2) := by decide +kernel
theorem dX7_breed_14 : decode cX7_breed 14 = .ok (.invokestatic 61, 3) := by decide +kernel
theorem dX7_breed_17 : decode cX7_breed 17 = .ok (.ifCond .ne 6, 3) := by decide +kernel
theorem dX7_breed_20 : decode cX7_breed 20 = .ok (.bipush (-2), 2) := by decide +kernel
theorem dX7_breed_22 : decode cX7_breed 22 = .ok (.ireturn, 1) := by decide +kernel
theorem dX7_breed_23 : decode cX7_breed 23 = .ok (.aload_n 0, 1) := by decide +kernel
theorem dX7_breed_24 : decode cX7_breed 24 = .ok (.getfield 28, 3) := by decide +kernel
theorem dX7_breed_27 : decode cX7_breed 27 = .ok (.iload_n 1, 1) := by decide +kernel
theorem dX7_breed_28 : decode cX7_breed 28 = .ok (.iaload, 1) := by decide +kernel
theorem dX7_breed_29 : decode cX7_breed 29 = .ok (.istore_n 3, 1) := by decide +kernel
theorem dX7_breed_30 : decode cX7_breed 30 = .ok (.aload_n 0, 1) := by decide +kernel
theorem dX7_breed_31 : decode cX7_breed 31 = .ok (.getfield 28, 3) := by decide +kernel
theorem dX7_breed_34 : decode cX7_breed 34 = .ok (.iload_n 1, 1) := by decide +kernel
theorem dX7_breed_35 : decode cX7_breed 35 = .ok (.iload_n 2, 1) := by decide +kernel
theorem dX7_breed_36 : decode cX7_breed 36 = .ok (.iastore, 1) := by decide +kernel
theorem dX7_breed_37 : decode cX7_breed 37 = .ok (.iload_n 3, 1) := by decide +kernel
theorem dX7_breed_38 : decode cX7_breed 38 = .ok (.ireturn, 1) := by decide +kernel
set_option maxRecDepth 20000 in
theorem ggX7_door_X7_isDoor : GoodIn wsX7_door wsX7_isDoor := goodIn_r _ [6, 7, 11, 12, 13, 14, 15, 16, 17, 18, 19, 20, 21, 22, 23, 24, 25, 26, 27, 28, 29, 30, 31, 32, 33, 34, 35, 36, 37, 38, 39] (by decide +kernel) (by decide +kernel)
set_option maxRecDepth 20000 in
theorem gX7_door_X7_isDoor : GoodIn wsX7_door (wsV RX7 137 RX7 yX7_isDoor wsX7_isDoor) := goodIn_app (goodIn_of _ (by decide +kernel)) ggX7_door_X7_isDoor
set_option maxRecDepth 20000 in
theorem ggX7_door_X7_within : GoodIn wsX7_door wsX7_within := goodIn_r _ [10] (by decide +kernel) (by decide +kernel)
set_option maxRecDepth 20000 in
theorem gX7_door_X7_within : GoodIn wsX7_door (va_wsS RX7 61 yX7_within wsX7_within) := goodIn_app (goodIn_of _ (by decide +kernel)) ggX7_door_X7_within
theorem dX7_door_0 : decode cX7_door 0 = .ok (.aload_n 0, 1) := by decide +kernel
theorem dX7_door_1 : decode cX7_door 1 = .ok (.iload_n 1, 1) := by decide +kernel
theorem dX7_door_2 : decode cX7_door 2 = .ok (.invokevirtual 137, 3) := by decide +kernel
theorem dX7_door_5 : decode cX7_door 5 = .ok (.ifCond .ne 5, 3) := by decide +kernel
theorem dX7_door_8 : decode cX7_door 8 = .ok (.iconst (-1), 1) := by decide +kernel
theorem dX7_door_9 : decode cX7_door 9 = .ok (.ireturn, 1) := by decide +kernel
theorem dX7_door_10 : decode cX7_door 10 = .ok (.iload_n 2, 1) := by decide +kernel
theorem dX7_door_11 : decode cX7_door 11 = .ok (.iconst 0, 1) := by decide +kernel
theorem dX7_door_12 : decode cX7_door 12 = .ok (.iconst 1, 1) := by decide +kernel
theorem dX7_door_13 : decode cX7_door 13 = .ok (.invokestatic 61, 3) := by decide +kernel
theorem dX7_door_16 : decode cX7_door 16 = .ok (.ifCond .ne 6, 3) := by decide +kernel
theorem dX7_door_19 : decode cX7_door 19 = .ok (.bipush (-2), 2) := by decide +kernel
theorem dX7_door_21 : decode cX7_door 21 = .ok (.ireturn, 1) := by decide +kernel
theorem dX7_door_22 : decode cX7_door 22 = .ok (.aload_n 0, 1) := by decide +kernel
theorem dX7_door_23 : decode cX7_door 23 = .ok (.getfield 101, 3) := by decide +kernel
theorem dX7_door_26 : decode cX7_door 26 = .ok (.iload_n 1, 1) := by decide +kernel
theorem dX7_door_27 : decode cX7_door 27 = .ok (.ishr, 1) := by decide +kernel
theorem dX7_door_28 : decode cX7_door 28 = .ok (.iconst 1, 1) := by decide +kernel
theorem dX7_door_29 : decode cX7_door 29 = .ok (.iand, 1) := by decide +kernel
theorem dX7_door_30 : decode cX7_door 30 = .ok (.istore_n 3, 1) := by decide +kernel
theorem dX7_door_31 : decode cX7_door 31 = .ok (.aload_n 0, 1) := by decide +kernel
theorem dX7_door_32 : decode cX7_door 32 = .ok (.aload_n 0, 1) := by decide +kernel
theorem dX7_door_33 : decode cX7_door 33 = .ok (.getfield 101, 3) := by decide +kernel
theorem dX7_door_36 : decode cX7_door 36 = .ok (.iconst 1, 1) := by decide +kernel
theorem dX7_door_37 : decode cX7_door 37 = .ok (.iload_n 1, 1) := by decide +kernel
theorem dX7_door_38 : decode cX7_door 38 = .ok (.ishl, 1) := by decide +kernel
theorem dX7_door_39 : decode cX7_door 39 = .ok (.iconst (-1), 1) := by decide +kernel
theorem dX7_door_40 : decode cX7_door 40 = .ok (.ixor, 1) := by decide +kernel
theorem dX7_door_41 : decode cX7_door 41 = .ok (.iand, 1) := by decide +kernel
theorem dX7_door_42 : decode cX7_door 42 = .ok (.iload_n 2, 1) := by decide +kernel
theorem dX7_door_43 : decode cX7_door 43 = .ok (.iload_n 1, 1) := by decide +kernel
theorem dX7_door_44 : decode cX7_door 44 = .ok (.ishl, 1) := by decide +kernel
theorem dX7_door_45 : decode cX7_door 45 = .ok (.ior, 1) := by decide +kernel
theorem dX7_door_46 : decode cX7_door 46 = .ok (.putfield 101, 3) := by decide +kernel
theorem dX7_door_49 : decode cX7_door 49 = .ok (.iload_n 3, 1) := by decide +kernel
theorem dX7_door_50 : decode cX7_door 50 = .ok (.ireturn, 1) := by decide +kernel
set_option maxRecDepth 20000 in
theorem ggX7_pass_X7_isOf : GoodIn wsX7_pass wsX7_isOf := goodIn_r _ [7] (by decide +kernel) (by decide +kernel)
set_option maxRecDepth 20000 in
theorem gX7_pass_X7_isOf : GoodIn wsX7_pass (va_wsS RX7 143 yX7_isOf wsX7_isOf) := goodIn_app (goodIn_of _ (by decide +kernel)) ggX7_pass_X7_isOf
theorem dX7_pass_0 : decode cX7_pass 0 = .ok (.iconst 0, 1) := by decide +kernel
theorem dX7_pass_1 : decode cX7_pass 1 = .ok (.istore_n 1, 1) := by decide +kernel
theorem dX7_pass_2 : decode cX7_pass 2 = .ok (.iconst 0, 1) := by decide +kernel
theorem dX7_pass_3 : decode cX7_pass 3 = .ok (.istore_n 2, 1) := by decide +kernel
theorem dX7_pass_4 : decode cX7_pass 4 = .ok (.iload_n 2, 1) := by decide +kernel
theorem dX7_pass_5 : decode cX7_pass 5 = .ok (.aload_n 0, 1) := by decide +kernel
theorem dX7_pass_6 : decode cX7_pass 6 = .ok (.getfield 65, 3) := by decide +kernel
theorem dX7_pass_9 : decode cX7_pass 9 = .ok (.iconst 1, 1) := by decide +kernel
theorem dX7_pass_10 : decode cX7_pass 10 = .ok (.isub, 1) := by decide +kernel
theorem dX7_pass_11 : decode cX7_pass 11 = .ok (.if_icmp .ge 84, 3) := by decide +kernel
theorem dX7_pass_14 : decode cX7_pass 14 = .ok (.aload_n 0, 1) := by decide +kernel
theorem dX7_pass_15 : decode cX7_pass 15 = .ok (.getfield 25, 3) := by decide +kernel
theorem dX7_pass_18 : decode cX7_pass 18 = .ok (.iload_n 2, 1) := by decide +kernel
theorem dX7_pass_19 : decode cX7_pass 19 = .ok (.iaload, 1) := by decide +kernel
theorem dX7_pass_20 : decode cX7_pass 20 = .ok (.aload_n 0, 1) := by decide +kernel
theorem dX7_pass_21 : decode cX7_pass 21 = .ok (.getfield 25, 3) := by decide +kernel
theorem dX7_pass_24 : decode cX7_pass 24 = .ok (.iload_n 2, 1) := by decide +kernel
theorem dX7_pass_25 : decode cX7_pass 25 = .ok (.iconst 1, 1) := by decide +kernel
theorem dX7_pass_26 : decode cX7_pass 26 = .ok (.iadd, 1) := by decide +kernel
theorem dX7_pass_27 : decode cX7_pass 27 = .ok (.iaload, 1) := by decide +kernel
theorem dX7_pass_28 : decode cX7_pass 28 = .ok (.isub, 1) := by decide +kernel
theorem dX7_pass_29 : decode cX7_pass 29 = .ok (.istore_n 3, 1) := by decide +kernel
theorem dX7_pass_30 : decode cX7_pass 30 = .ok (.aload_n 0, 1) := by decide +kernel
theorem dX7_pass_31 : decode cX7_pass 31 = .ok (.getfield 101, 3) := by decide +kernel
theorem dX7_pass_34 : decode cX7_pass 34 = .ok (.iload_n 2, 1) := by decide +kernel
theorem dX7_pass_35 : decode cX7_pass 35 = .ok (.invokestatic 143, 3) := by decide +kernel
theorem dX7_pass_38 : decode cX7_pass 38 = .ok (.ifCond .eq 51, 3) := by decide +kernel
theorem dX7_pass_41 : decode cX7_pass 41 = .ok (.iload_n 3, 1) := by decide +kernel
theorem dX7_pass_42 : decode cX7_pass 42 = .ok (.iconst 1, 1) := by decide +kernel
theorem dX7_pass_43 : decode cX7_pass 43 = .ok (.if_icmp .gt 8, 3) := by decide +kernel
theorem dX7_pass_46 : decode cX7_pass 46 = .ok (.iload_n 3, 1) := by decide +kernel
theorem dX7_pass_47 : decode cX7_pass 47 = .ok (.iconst (-1), 1) := by decide +kernel
theorem dX7_pass_48 : decode cX7_pass 48 = .ok (.if_icmp .ge 41, 3) := by decide +kernel
theorem dX7_pass_51 : decode cX7_pass 51 = .ok (.iload_n 3, 1) := by decide +kernel
theorem dX7_pass_52 : decode cX7_pass 52 = .ok (.ifCond .le 7, 3) := by decide +kernel
theorem dX7_pass_55 : decode cX7_pass 55 = .ok (.iconst 1, 1) := by decide +kernel
theorem dX7_pass_56 : decode cX7_pass 56 = .ok (.goto 4, 3) := by decide +kernel
theorem dX7_pass_59 : decode cX7_pass 59 = .ok (.iconst (-1), 1) := by decide +kernel
theorem dX7_pass_60 : decode cX7_pass 60 = .ok (.istore 4, 2) := by decide +kernel
theorem dX7_pass_62 : decode cX7_pass 62 = .ok (.aload_n 0, 1) := by decide +kernel
end
section
theorem dX7_pass_63 : decode cX7_pass 63 = .ok (.getfield 25, 3) := by decide +kernel
theorem dX7_pass_66 : decode cX7_pass 66 = .ok (.iload_n 2, 1) := by decide +kernel
theorem dX7_pass_67 : decode cX7_pass 67 = .ok (.dup2, 1) := by decide +kernel
theorem dX7_pass_68 : decode cX7_pass 68 = .ok (.iaload, 1) := by decide +kernel
theorem dX7_pass_69 : decode cX7_pass 69 = .ok (.iload 4, 2) := by decide +kernel
theorem dX7_pass_71 : decode cX7_pass 71 = .ok (.isub, 1) := by decide +kernel
theorem dX7_pass_72 : decode cX7_pass 72 = .ok (.iastore, 1) := by decide +kernel
theorem dX7_pass_73 : decode cX7_pass 73 = .ok (.aload_n 0, 1) := by decide +kernel
theorem dX7_pass_74 : decode cX7_pass 74 = .ok (.getfield 25, 3) := by decide +kernel
theorem dX7_pass_77 : decode cX7_pass 77 = .ok (.iload_n 2, 1) := by decide +kernel
theorem dX7_pass_78 : decode cX7_pass 78 = .ok (.iconst 1, 1) := by decide +kernel
theorem dX7_pass_79 : decode cX7_pass 79 = .ok (.iadd, 1) := by decide +kernel
theorem dX7_pass_80 : decode cX7_pass 80 = .ok (.dup2, 1) := by decide +kernel
theorem dX7_pass_81 : decode cX7_pass 81 = .ok (.iaload, 1) := by decide +kernel
theorem dX7_pass_82 : decode cX7_pass 82 = .ok (.iload 4, 2) := by decide +kernel
theorem dX7_pass_84 : decode cX7_pass 84 = .ok (.iadd, 1) := by decide +kernel
theorem dX7_pass_85 : decode cX7_pass 85 = .ok (.iastore, 1) := by decide +kernel
theorem dX7_pass_86 : decode cX7_pass 86 = .ok (.iinc 1 1, 3) := by decide +kernel
theorem dX7_pass_89 : decode cX7_pass 89 = .ok (.iinc 2 1, 3) := by decide +kernel
theorem dX7_pass_92 : decode cX7_pass 92 = .ok (.goto (-88), 3) := by decide +kernel
theorem dX7_pass_95 : decode cX7_pass 95 = .ok (.iload_n 1, 1) := by decide +kernel
theorem dX7_pass_96 : decode cX7_pass 96 = .ok (.ireturn, 1) := by decide +kernel
set_option maxRecDepth 20000 in
theorem ggX7_drop_X7_isOf : GoodIn wsX7_drop wsX7_isOf := goodIn_r _ [7] (by decide +kernel) (by decide +kernel)
set_option maxRecDepth 20000 in
theorem gX7_drop_X7_isOf : GoodIn wsX7_drop (va_wsS RX7 143 yX7_isOf wsX7_isOf) := goodIn_app (goodIn_of _ (by decide +kernel)) ggX7_drop_X7_isOf
set_option maxRecDepth 20000 in
theorem ggX7_drop_X7_bearsOf : GoodIn wsX7_drop wsX7_bearsOf := goodIn_r _ [11, 12, 13, 14, 15, 6, 16, 17, 18, 19, 20, 21, 22, 23, 24, 25, 26, 27, 28, 29, 30, 31, 32, 33, 34, 35, 36, 37, 38, 39, 40, 41, 42, 43, 44, 45] (by decide +kernel) (by decide +kernel)
set_option maxRecDepth 20000 in
theorem gX7_drop_X7_bearsOf : GoodIn wsX7_drop (wsV RX7 134 RX7 yX7_bearsOf wsX7_bearsOf) := goodIn_app (goodIn_of _ (by decide +kernel)) ggX7_drop_X7_bearsOf
theorem dX7_drop_0 : decode cX7_drop 0 = .ok (.iconst 0, 1) := by decide +kernel
theorem dX7_drop_1 : decode cX7_drop 1 = .ok (.istore_n 1, 1) := by decide +kernel
theorem dX7_drop_2 : decode cX7_drop 2 = .ok (.iconst 0, 1) := by decide +kernel
theorem dX7_drop_3 : decode cX7_drop 3 = .ok (.istore_n 2, 1) := by decide +kernel
theorem dX7_drop_4 : decode cX7_drop 4 = .ok (.iload_n 2, 1) := by decide +kernel
theorem dX7_drop_5 : decode cX7_drop 5 = .ok (.aload_n 0, 1) := by decide +kernel
theorem dX7_drop_6 : decode cX7_drop 6 = .ok (.getfield 65, 3) := by decide +kernel
theorem dX7_drop_9 : decode cX7_drop 9 = .ok (.if_icmp .ge 44, 3) := by decide +kernel
theorem dX7_drop_12 : decode cX7_drop 12 = .ok (.iload_n 1, 1) := by decide +kernel
theorem dX7_drop_13 : decode cX7_drop 13 = .ok (.aload_n 0, 1) := by decide +kernel
theorem dX7_drop_14 : decode cX7_drop 14 = .ok (.getfield 107, 3) := by decide +kernel
theorem dX7_drop_17 : decode cX7_drop 17 = .ok (.iload_n 2, 1) := by decide +kernel
theorem dX7_drop_18 : decode cX7_drop 18 = .ok (.invokestatic 143, 3) := by decide +kernel
theorem dX7_drop_21 : decode cX7_drop 21 = .ok (.ifCond .ne 23, 3) := by decide +kernel
theorem dX7_drop_24 : decode cX7_drop 24 = .ok (.aload_n 0, 1) := by decide +kernel
theorem dX7_drop_25 : decode cX7_drop 25 = .ok (.getfield 25, 3) := by decide +kernel
theorem dX7_drop_28 : decode cX7_drop 28 = .ok (.iload_n 2, 1) := by decide +kernel
theorem dX7_drop_29 : decode cX7_drop 29 = .ok (.iaload, 1) := by decide +kernel
theorem dX7_drop_30 : decode cX7_drop 30 = .ok (.aload_n 0, 1) := by decide +kernel
theorem dX7_drop_31 : decode cX7_drop 31 = .ok (.iload_n 2, 1) := by decide +kernel
theorem dX7_drop_32 : decode cX7_drop 32 = .ok (.invokevirtual 134, 3) := by decide +kernel
theorem dX7_drop_35 : decode cX7_drop 35 = .ok (.if_icmp .le 9, 3) := by decide +kernel
theorem dX7_drop_38 : decode cX7_drop 38 = .ok (.iconst 1, 1) := by decide +kernel
theorem dX7_drop_39 : decode cX7_drop 39 = .ok (.iload_n 2, 1) := by decide +kernel
theorem dX7_drop_40 : decode cX7_drop 40 = .ok (.ishl, 1) := by decide +kernel
theorem dX7_drop_41 : decode cX7_drop 41 = .ok (.goto 4, 3) := by decide +kernel
theorem dX7_drop_44 : decode cX7_drop 44 = .ok (.iconst 0, 1) := by decide +kernel
theorem dX7_drop_45 : decode cX7_drop 45 = .ok (.ior, 1) := by decide +kernel
theorem dX7_drop_46 : decode cX7_drop 46 = .ok (.istore_n 1, 1) := by decide +kernel
theorem dX7_drop_47 : decode cX7_drop 47 = .ok (.iinc 2 1, 3) := by decide +kernel
theorem dX7_drop_50 : decode cX7_drop 50 = .ok (.goto (-46), 3) := by decide +kernel
theorem dX7_drop_53 : decode cX7_drop 53 = .ok (.aload_n 0, 1) := by decide +kernel
theorem dX7_drop_54 : decode cX7_drop 54 = .ok (.dup, 1) := by decide +kernel
theorem dX7_drop_55 : decode cX7_drop 55 = .ok (.getfield 107, 3) := by decide +kernel
theorem dX7_drop_58 : decode cX7_drop 58 = .ok (.iload_n 1, 1) := by decide +kernel
theorem dX7_drop_59 : decode cX7_drop 59 = .ok (.ior, 1) := by decide +kernel
theorem dX7_drop_60 : decode cX7_drop 60 = .ok (.putfield 107, 3) := by decide +kernel
theorem dX7_drop_63 : decode cX7_drop 63 = .ok (.iload_n 1, 1) := by decide +kernel
theorem dX7_drop_64 : decode cX7_drop 64 = .ok (.ireturn, 1) := by decide +kernel
theorem dX7_sayIn_0 : decode cX7_sayIn 0 = .ok (.aload_n 0, 1) := by decide +kernel
theorem dX7_sayIn_1 : decode cX7_sayIn 1 = .ok (.getfield 25, 3) := by decide +kernel
theorem dX7_sayIn_4 : decode cX7_sayIn 4 = .ok (.iload_n 1, 1) := by decide +kernel
theorem dX7_sayIn_5 : decode cX7_sayIn 5 = .ok (.iaload, 1) := by decide +kernel
theorem dX7_sayIn_6 : decode cX7_sayIn 6 = .ok (.aload_n 0, 1) := by decide +kernel
theorem dX7_sayIn_7 : decode cX7_sayIn 7 = .ok (.getfield 19, 3) := by decide +kernel
theorem dX7_sayIn_10 : decode cX7_sayIn 10 = .ok (.iload_n 2, 1) := by decide +kernel
theorem dX7_sayIn_11 : decode cX7_sayIn 11 = .ok (.iaload, 1) := by decide +kernel
theorem dX7_sayIn_12 : decode cX7_sayIn 12 = .ok (.iadd, 1) := by decide +kernel
theorem dX7_sayIn_13 : decode cX7_sayIn 13 = .ok (.iconst 4, 1) := by decide +kernel
theorem dX7_sayIn_14 : decode cX7_sayIn 14 = .ok (.isub, 1) := by decide +kernel
theorem dX7_sayIn_15 : decode cX7_sayIn 15 = .ok (.istore_n 3, 1) := by decide +kernel
theorem dX7_sayIn_16 : decode cX7_sayIn 16 = .ok (.aload_n 0, 1) := by decide +kernel
theorem dX7_sayIn_17 : decode cX7_sayIn 17 = .ok (.getfield 25, 3) := by decide +kernel
theorem dX7_sayIn_20 : decode cX7_sayIn 20 = .ok (.iload_n 1, 1) := by decide +kernel
theorem dX7_sayIn_21 : decode cX7_sayIn 21 = .ok (.iload_n 3, 1) := by decide +kernel
theorem dX7_sayIn_22 : decode cX7_sayIn 22 = .ok (.ifCond .ge 7, 3) := by decide +kernel
theorem dX7_sayIn_25 : decode cX7_sayIn 25 = .ok (.iconst 0, 1) := by decide +kernel
theorem dX7_sayIn_26 : decode cX7_sayIn 26 = .ok (.goto 15, 3) := by decide +kernel
theorem dX7_sayIn_29 : decode cX7_sayIn 29 = .ok (.iload_n 3, 1) := by decide +kernel
theorem dX7_sayIn_30 : decode cX7_sayIn 30 = .ok (.bipush 40, 2) := by decide +kernel
theorem dX7_sayIn_32 : decode cX7_sayIn 32 = .ok (.if_icmp .le 8, 3) := by decide +kernel
theorem dX7_sayIn_35 : decode cX7_sayIn 35 = .ok (.bipush 40, 2) := by decide +kernel
theorem dX7_sayIn_37 : decode cX7_sayIn 37 = .ok (.goto 4, 3) := by decide +kernel
theorem dX7_sayIn_40 : decode cX7_sayIn 40 = .ok (.iload_n 3, 1) := by decide +kernel
theorem dX7_sayIn_41 : decode cX7_sayIn 41 = .ok (.iastore, 1) := by decide +kernel
theorem dX7_sayIn_42 : decode cX7_sayIn 42 = .ok (.return_, 1) := by decide +kernel
set_option maxRecDepth 20000 in
theorem ggX7_breathe_X7_sayIn : GoodIn wsX7_breathe wsX7_sayIn := goodIn_r _ [5, 6, 7, 31, 32, 33, 34, 35, 36, 37, 38, 39, 40, 41, 42, 43, 44, 45, 46, 47, 48, 49, 50, 51, 52, 53, 54, 55, 56, 57, 58, 59] (by decide +kernel) (by decide +kernel)
set_option maxRecDepth 20000 in
theorem gX7_breathe_X7_sayIn : GoodIn wsX7_breathe (wsV RX7 146 RX7 yX7_sayIn wsX7_sayIn) := goodIn_app (goodIn_of _ (by decide +kernel)) ggX7_breathe_X7_sayIn
set_option maxRecDepth 20000 in
theorem ggX7_breathe_X7_pass : GoodIn wsX7_breathe wsX7_pass := goodIn_r _ [11, 12, 6, 13, 14, 15, 4, 16, 31, 32, 33, 34, 35, 36, 37, 38, 39, 40, 41, 42, 43, 44, 45, 46, 47, 48, 49, 50, 51, 52, 53, 54, 55, 56, 57, 58, 59] (by decide +kernel) (by decide +kernel)
set_option maxRecDepth 20000 in
theorem gX7_breathe_X7_pass : GoodIn wsX7_breathe (wsV RX7 150 RX7 yX7_pass wsX7_pass) := goodIn_app (goodIn_of _ (by decide +kernel)) ggX7_breathe_X7_pass
set_option maxRecDepth 20000 in
theorem ggX7_breathe_X7_drop : GoodIn wsX7_breathe wsX7_drop := goodIn_r _ [20, 12, 21, 6, 14, 15, 4, 16, 22, 23, 24, 25, 26, 27, 28, 29, 30, 31, 32, 33, 34, 35, 36, 37, 38, 39, 40, 41, 42, 43, 44, 45, 46, 47, 48, 49, 50, 51, 52, 53, 54, 55, 56, 57, 58, 59] (by decide +kernel) (by decide +kernel)
set_option maxRecDepth 20000 in
theorem gX7_breathe_X7_drop : GoodIn wsX7_breathe (wsV RX7 154 RX7 yX7_drop wsX7_drop) := goodIn_app (goodIn_of _ (by decide +kernel)) ggX7_breathe_X7_drop
theorem dX7_breathe_0 : decode cX7_breathe 0 = .ok (.aload_n 0, 1) := by decide +kernel
theorem dX7_breathe_1 : decode cX7_breathe 1 = .ok (.iload_n 1, 1) := by decide +kernel
theorem dX7_breathe_2 : decode cX7_breathe 2 = .ok (.iload_n 2, 1) := by decide +kernel
theorem dX7_breathe_3 : decode cX7_breathe 3 = .ok (.invokevirtual 146, 3) := by decide +kernel
theorem dX7_breathe_6 : decode cX7_breathe 6 = .ok (.aload_n 0, 1) := by decide +kernel
theorem dX7_breathe_7 : decode cX7_breathe 7 = .ok (.invokevirtual 150, 3) := by decide +kernel
theorem dX7_breathe_10 : decode cX7_breathe 10 = .ok (.pop, 1) := by decide +kernel
theorem dX7_breathe_11 : decode cX7_breathe 11 = .ok (.aload_n 0, 1) := by decide +kernel
theorem dX7_breathe_12 : decode cX7_breathe 12 = .ok (.invokevirtual 154, 3) := by decide +kernel
theorem dX7_breathe_15 : decode cX7_breathe 15 = .ok (.ireturn, 1) := by decide +kernel
set_option maxRecDepth 20000 in
theorem ggX7_say_X7_isGallery : GoodIn wsX7_say wsX7_isGallery := goodIn_r _ [6, 7, 45, 46, 47, 48, 49, 50, 51, 52, 53, 54, 55, 56, 57, 58, 59, 60, 61, 62, 63, 64, 65, 66, 67, 68, 69, 70, 71, 72, 73] (by decide +kernel) (by decide +kernel)
set_option maxRecDepth 20000 in
theorem gX7_say_X7_isGallery : GoodIn wsX7_say (wsV RX7 131 RX7 yX7_isGallery wsX7_isGallery) := goodIn_app (goodIn_of _ (by decide +kernel)) ggX7_say_X7_isGallery
set_option maxRecDepth 20000 in
theorem ggX7_say_X7_isWord : GoodIn wsX7_say wsX7_isWord := goodIn_r _ [11, 12, 45, 46, 47, 48, 49, 50, 51, 52, 53, 54, 55, 56, 57, 58, 59, 60, 61, 62, 63, 64, 65, 66, 67, 68, 69, 70, 71, 72, 73] (by decide +kernel) (by decide +kernel)
set_option maxRecDepth 20000 in
theorem gX7_say_X7_isWord : GoodIn wsX7_say (wsV RX7 140 RX7 yX7_isWord wsX7_isWord) := goodIn_app (goodIn_of _ (by decide +kernel)) ggX7_say_X7_isWord
set_option maxRecDepth 20000 in
theorem ggX7_say_X7_breathe : GoodIn wsX7_say wsX7_breathe := goodIn_r _ [16, 17, 18, 19, 5, 20, 21, 22, 23, 24, 25, 26, 7, 27, 28, 29, 30, 31, 32, 33, 34, 35, 36, 37, 38, 39, 40, 41, 42, 43, 44, 45, 46, 47, 48, 49, 50, 51, 52, 53, 54, 55, 56, 57, 58, 59, 60, 61, 62, 63, 64, 65, 66, 67, 68, 69, 70, 71, 72, 73] (by decide +kernel) (by decide +kernel)
set_option maxRecDepth 20000 in
theorem gX7_say_X7_breathe : GoodIn wsX7_say (wsV RX7 157 RX7 yX7_breathe wsX7_breathe) := goodIn_app (goodIn_of _ (by decide +kernel)) ggX7_say_X7_breathe
theorem dX7_say_0 : decode cX7_say 0 = .ok (.aload_n 0, 1) := by decide +kernel
theorem dX7_say_1 : decode cX7_say 1 = .ok (.iload_n 1, 1) := by decide +kernel
theorem dX7_say_2 : decode cX7_say 2 = .ok (.invokevirtual 131, 3) := by decide +kernel
theorem dX7_say_5 : decode cX7_say 5 = .ok (.ifCond .eq 11, 3) := by decide +kernel
theorem dX7_say_8 : decode cX7_say 8 = .ok (.aload_n 0, 1) := by decide +kernel
theorem dX7_say_9 : decode cX7_say 9 = .ok (.iload_n 2, 1) := by decide +kernel
theorem dX7_say_10 : decode cX7_say 10 = .ok (.invokevirtual 140, 3) := by decide +kernel
theorem dX7_say_13 : decode cX7_say 13 = .ok (.ifCond .ne 5, 3) := by decide +kernel
theorem dX7_say_16 : decode cX7_say 16 = .ok (.iconst (-1), 1) := by decide +kernel
theorem dX7_say_17 : decode cX7_say 17 = .ok (.ireturn, 1) := by decide +kernel
theorem dX7_say_18 : decode cX7_say 18 = .ok (.aload_n 0, 1) := by decide +kernel
theorem dX7_say_19 : decode cX7_say 19 = .ok (.dup, 1) := by decide +kernel
theorem dX7_say_20 : decode cX7_say 20 = .ok (.getfield 104, 3) := by decide +kernel
theorem dX7_say_23 : decode cX7_say 23 = .ok (.iconst 1, 1) := by decide +kernel
theorem dX7_say_24 : decode cX7_say 24 = .ok (.iadd, 1) := by decide +kernel
theorem dX7_say_25 : decode cX7_say 25 = .ok (.putfield 104, 3) := by decide +kernel
theorem dX7_say_28 : decode cX7_say 28 = .ok (.aload_n 0, 1) := by decide +kernel
theorem dX7_say_29 : decode cX7_say 29 = .ok (.iload_n 1, 1) := by decide +kernel
theorem dX7_say_30 : decode cX7_say 30 = .ok (.iload_n 2, 1) := by decide +kernel
theorem dX7_say_31 : decode cX7_say 31 = .ok (.invokevirtual 157, 3) := by decide +kernel
theorem dX7_say_34 : decode cX7_say 34 = .ok (.ireturn, 1) := by decide +kernel
set_option maxRecDepth 20000 in
theorem ggX7_hush_X7_within : GoodIn wsX7_hush wsX7_within := goodIn_r _ [6] (by decide +kernel) (by decide +kernel)
set_option maxRecDepth 20000 in
theorem gX7_hush_X7_within : GoodIn wsX7_hush (va_wsS RX7 61 yX7_within wsX7_within) := goodIn_app (goodIn_of _ (by decide +kernel)) ggX7_hush_X7_within
set_option maxRecDepth 20000 in
theorem ggX7_hush_X7_pass : GoodIn wsX7_hush wsX7_pass := goodIn_r _ [10, 1, 11, 12, 13, 14, 5, 15, 30, 31, 32, 33, 34, 35, 36, 37, 38, 39, 40, 41, 42, 43, 44, 45, 46, 47, 48, 49, 50, 51, 52, 53, 54, 55, 56, 57, 58] (by decide +kernel) (by decide +kernel)
set_option maxRecDepth 20000 in
theorem gX7_hush_X7_pass : GoodIn wsX7_hush (wsV RX7 150 RX7 yX7_pass wsX7_pass) := goodIn_app (goodIn_of _ (by decide +kernel)) ggX7_hush_X7_pass
set_option maxRecDepth 20000 in
theorem ggX7_hush_X7_drop : GoodIn wsX7_hush wsX7_drop := goodIn_r _ [19, 1, 20, 11, 13, 14, 5, 15, 21, 22, 23, 24, 25, 26, 27, 28, 29, 30, 31, 32, 33, 34, 35, 36, 37, 38, 39, 40, 41, 42, 43, 44, 45, 46, 47, 48, 49, 50, 51, 52, 53, 54, 55, 56, 57, 58] (by decide +kernel) (by decide +kernel)
set_option maxRecDepth 20000 in
theorem gX7_hush_X7_drop : GoodIn wsX7_hush (wsV RX7 154 RX7 yX7_drop wsX7_drop) := goodIn_app (goodIn_of _ (by decide +kernel)) ggX7_hush_X7_drop
theorem dX7_hush_0 : decode cX7_hush 0 = .ok (.iload_n 1, 1) := by decide +kernel
theorem dX7_hush_1 : decode cX7_hush 1 = .ok (.iconst 1, 1) := by decide +kernel
theorem dX7_hush_2 : decode cX7_hush 2 = .ok (.bipush 30, 2) := by decide +kernel
theorem dX7_hush_4 : decode cX7_hush 4 = .ok (.invokestatic 61, 3) := by decide +kernel
theorem dX7_hush_7 : decode cX7_hush 7 = .ok (.ifCond .ne 6, 3) := by decide +kernel
theorem dX7_hush_10 : decode cX7_hush 10 = .ok (.bipush (-2), 2) := by decide +kernel
theorem dX7_hush_12 : decode cX7_hush 12 = .ok (.ireturn, 1) := by decide +kernel
theorem dX7_hush_13 : decode cX7_hush 13 = .ok (.aload_n 0, 1) := by decide +kernel
theorem dX7_hush_14 : decode cX7_hush 14 = .ok (.getfield 65, 3) := by decide +kernel
theorem dX7_hush_17 : decode cX7_hush 17 = .ok (.ifCond .ne 6, 3) := by decide +kernel
theorem dX7_hush_20 : decode cX7_hush 20 = .ok (.bipush (-3), 2) := by decide +kernel
theorem dX7_hush_22 : decode cX7_hush 22 = .ok (.ireturn, 1) := by decide +kernel
theorem dX7_hush_23 : decode cX7_hush 23 = .ok (.iconst 0, 1) := by decide +kernel
theorem dX7_hush_24 : decode cX7_hush 24 = .ok (.istore_n 2, 1) := by decide +kernel
theorem dX7_hush_25 : decode cX7_hush 25 = .ok (.iconst 0, 1) := by decide +kernel
theorem dX7_hush_26 : decode cX7_hush 26 = .ok (.istore_n 3, 1) := by decide +kernel
theorem dX7_hush_27 : decode cX7_hush 27 = .ok (.iload_n 3, 1) := by decide +kernel
theorem dX7_hush_28 : decode cX7_hush 28 = .ok (.iload_n 1, 1) := by decide +kernel
theorem dX7_hush_29 : decode cX7_hush 29 = .ok (.if_icmp .ge 21, 3) := by decide +kernel
theorem dX7_hush_32 : decode cX7_hush 32 = .ok (.aload_n 0, 1) := by decide +kernel
theorem dX7_hush_33 : decode cX7_hush 33 = .ok (.invokevirtual 150, 3) := by decide +kernel
theorem dX7_hush_36 : decode cX7_hush 36 = .ok (.pop, 1) := by decide +kernel
theorem dX7_hush_37 : decode cX7_hush 37 = .ok (.iload_n 2, 1) := by decide +kernel
theorem dX7_hush_38 : decode cX7_hush 38 = .ok (.aload_n 0, 1) := by decide +kernel
theorem dX7_hush_39 : decode cX7_hush 39 = .ok (.invokevirtual 154, 3) := by decide +kernel
theorem dX7_hush_42 : decode cX7_hush 42 = .ok (.ior, 1) := by decide +kernel
theorem dX7_hush_43 : decode cX7_hush 43 = .ok (.istore_n 2, 1) := by decide +kernel
theorem dX7_hush_44 : decode cX7_hush 44 = .ok (.iinc 3 1, 3) := by decide +kernel
theorem dX7_hush_47 : decode cX7_hush 47 = .ok (.goto (-20), 3) := by decide +kernel
theorem dX7_hush_50 : decode cX7_hush 50 = .ok (.aload_n 0, 1) := by decide +kernel
theorem dX7_hush_51 : decode cX7_hush 51 = .ok (.dup, 1) := by decide +kernel
theorem dX7_hush_52 : decode cX7_hush 52 = .ok (.getfield 104, 3) := by decide +kernel
theorem dX7_hush_55 : decode cX7_hush 55 = .ok (.iload_n 1, 1) := by decide +kernel
theorem dX7_hush_56 : decode cX7_hush 56 = .ok (.iadd, 1) := by decide +kernel
theorem dX7_hush_57 : decode cX7_hush 57 = .ok (.putfield 104, 3) := by decide +kernel
theorem dX7_hush_60 : decode cX7_hush 60 = .ok (.iload_n 2, 1) := by decide +kernel
theorem dX7_hush_61 : decode cX7_hush 61 = .ok (.ireturn, 1) := by decide +kernel
theorem dX7_size_0 : decode cX7_size 0 = .ok (.iconst 0, 1) := by decide +kernel
theorem dX7_size_1 : decode cX7_size 1 = .ok (.istore_n 1, 1) := by decide +kernel
theorem dX7_size_2 : decode cX7_size 2 = .ok (.iload_n 0, 1) := by decide +kernel
theorem dX7_size_3 : decode cX7_size 3 = .ok (.istore_n 2, 1) := by decide +kernel
theorem dX7_size_4 : decode cX7_size 4 = .ok (.iload_n 2, 1) := by decide +kernel
theorem dX7_size_5 : decode cX7_size 5 = .ok (.ifCond .le 16, 3) := by decide +kernel
theorem dX7_size_8 : decode cX7_size 8 = .ok (.iload_n 1, 1) := by decide +kernel
theorem dX7_size_9 : decode cX7_size 9 = .ok (.iload_n 2, 1) := by decide +kernel
theorem dX7_size_10 : decode cX7_size 10 = .ok (.iconst 1, 1) := by decide +kernel
theorem dX7_size_11 : decode cX7_size 11 = .ok (.iand, 1) := by decide +kernel
theorem dX7_size_12 : decode cX7_size 12 = .ok (.iadd, 1) := by decide +kernel
theorem dX7_size_13 : decode cX7_size 13 = .ok (.istore_n 1, 1) := by decide +kernel
theorem dX7_size_14 : decode cX7_size 14 = .ok (.iload_n 2, 1) := by decide +kernel
theorem dX7_size_15 : decode cX7_size 15 = .ok (.iconst 1, 1) := by decide +kernel
theorem dX7_size_16 : decode cX7_size 16 = .ok (.ishr, 1) := by decide +kernel
theorem dX7_size_17 : decode cX7_size 17 = .ok (.istore_n 2, 1) := by decide +kernel
theorem dX7_size_18 : decode cX7_size 18 = .ok (.goto (-14), 3) := by decide +kernel
theorem dX7_size_21 : decode cX7_size 21 = .ok (.iload_n 1, 1) := by decide +kernel
theorem dX7_size_22 : decode cX7_size 22 = .ok (.ireturn, 1) := by decide +kernel
set_option maxRecDepth 20000 in
theorem ggX7_blow_X7_isGallery : GoodIn wsX7_blow wsX7_isGallery := goodIn_r _ [7, 8, 24, 25, 26, 27, 28, 29, 30, 31, 32, 33, 34, 35, 36, 37, 38, 39, 40, 41, 42, 43, 44, 45, 46, 47, 48, 49, 50, 51, 52] (by decide +kernel) (by decide +kernel)
set_option maxRecDepth 20000 in
theorem gX7_blow_X7_isGallery : GoodIn wsX7_blow (wsV RX7 131 RX7 yX7_isGallery wsX7_isGallery) := goodIn_app (goodIn_of _ (by decide +kernel)) ggX7_blow_X7_isGallery
set_option maxRecDepth 20000 in
theorem ggX7_blow_X7_isOf : GoodIn wsX7_blow wsX7_isOf := goodIn_r _ [11] (by decide +kernel) (by decide +kernel)
set_option maxRecDepth 20000 in
theorem gX7_blow_X7_isOf : GoodIn wsX7_blow (va_wsS RX7 143 yX7_isOf wsX7_isOf) := goodIn_app (goodIn_of _ (by decide +kernel)) ggX7_blow_X7_isOf
set_option maxRecDepth 20000 in
theorem ggX7_blow_X7_bearsOf : GoodIn wsX7_blow wsX7_bearsOf := goodIn_r _ [15, 16, 17, 18, 19, 6, 20, 24, 25, 26, 27, 28, 29, 30, 31, 32, 33, 34, 35, 36, 37, 38, 39, 40, 41, 42, 43, 44, 45, 46, 47, 48, 49, 50, 51, 52] (by decide +kernel) (by decide +kernel)
set_option maxRecDepth 20000 in
theorem gX7_blow_X7_bearsOf : GoodIn wsX7_blow (wsV RX7 134 RX7 yX7_bearsOf wsX7_bearsOf) := goodIn_app (goodIn_of _ (by decide +kernel)) ggX7_blow_X7_bearsOf
set_option maxRecDepth 20000 in
theorem ggX7_blow_X7_size : GoodIn wsX7_blow wsX7_size := goodIn_r _ [23] (by decide +kernel) (by decide +kernel)
set_option maxRecDepth 20000 in
theorem gX7_blow_X7_size : GoodIn wsX7_blow (va_wsS RX7 160 yX7_size wsX7_size) := goodIn_app (goodIn_of _ (by decide +kernel)) ggX7_blow_X7_size
theorem dX7_blow_0 : decode cX7_blow 0 = .ok (.aload_n 0, 1) := by decide +kernel
theorem dX7_blow_1 : decode cX7_blow 1 = .ok (.iload_n 1, 1) := by decide +kernel
theorem dX7_blow_2 : decode cX7_blow 2 = .ok (.invokevirtual 131, 3) := by decide +kernel
theorem dX7_blow_5 : decode cX7_blow 5 = .ok (.ifCond .ne 5, 3) := by decide +kernel
theorem dX7_blow_8 : decode cX7_blow 8 = .ok (.iconst (-1), 1) := by decide +kernel
theorem dX7_blow_9 : decode cX7_blow 9 = .ok (.ireturn, 1) := by decide +kernel
theorem dX7_blow_10 : decode cX7_blow 10 = .ok (.aload_n 0, 1) := by decide +kernel
theorem dX7_blow_11 : decode cX7_blow 11 = .ok (.getfield 107, 3) := by decide +kernel
theorem dX7_blow_14 : decode cX7_blow 14 = .ok (.iload_n 1, 1) := by decide +kernel
theorem dX7_blow_15 : decode cX7_blow 15 = .ok (.invokestatic 143, 3) := by decide +kernel
theorem dX7_blow_18 : decode cX7_blow 18 = .ok (.ifCond .eq 17, 3) := by decide +kernel
theorem dX7_blow_21 : decode cX7_blow 21 = .ok (.aload_n 0, 1) := by decide +kernel
theorem dX7_blow_22 : decode cX7_blow 22 = .ok (.getfield 25, 3) := by decide +kernel
theorem dX7_blow_25 : decode cX7_blow 25 = .ok (.iload_n 1, 1) := by decide +kernel
theorem dX7_blow_26 : decode cX7_blow 26 = .ok (.iaload, 1) := by decide +kernel
theorem dX7_blow_27 : decode cX7_blow 27 = .ok (.aload_n 0, 1) := by decide +kernel
theorem dX7_blow_28 : decode cX7_blow 28 = .ok (.iload_n 1, 1) := by decide +kernel
theorem dX7_blow_29 : decode cX7_blow 29 = .ok (.invokevirtual 134, 3) := by decide +kernel
theorem dX7_blow_32 : decode cX7_blow 32 = .ok (.if_icmp .le 6, 3) := by decide +kernel
theorem dX7_blow_35 : decode cX7_blow 35 = .ok (.bipush (-3), 2) := by decide +kernel
theorem dX7_blow_37 : decode cX7_blow 37 = .ok (.ireturn, 1) := by decide +kernel
theorem dX7_blow_38 : decode cX7_blow 38 = .ok (.aload_n 0, 1) := by decide +kernel
theorem dX7_blow_39 : decode cX7_blow 39 = .ok (.dup, 1) := by decide +kernel
theorem dX7_blow_40 : decode cX7_blow 40 = .ok (.getfield 107, 3) := by decide +kernel
theorem dX7_blow_43 : decode cX7_blow 43 = .ok (.iconst 1, 1) := by decide +kernel
theorem dX7_blow_44 : decode cX7_blow 44 = .ok (.iload_n 1, 1) := by decide +kernel
theorem dX7_blow_45 : decode cX7_blow 45 = .ok (.ishl, 1) := by decide +kernel
theorem dX7_blow_46 : decode cX7_blow 46 = .ok (.iconst (-1), 1) := by decide +kernel
theorem dX7_blow_47 : decode cX7_blow 47 = .ok (.ixor, 1) := by decide +kernel
theorem dX7_blow_48 : decode cX7_blow 48 = .ok (.iand, 1) := by decide +kernel
theorem dX7_blow_49 : decode cX7_blow 49 = .ok (.putfield 107, 3) := by decide +kernel
theorem dX7_blow_52 : decode cX7_blow 52 = .ok (.aload_n 0, 1) := by decide +kernel
theorem dX7_blow_53 : decode cX7_blow 53 = .ok (.getfield 107, 3) := by decide +kernel
theorem dX7_blow_56 : decode cX7_blow 56 = .ok (.invokestatic 160, 3) := by decide +kernel
theorem dX7_blow_59 : decode cX7_blow 59 = .ok (.ireturn, 1) := by decide +kernel
theorem dX7_keep_0 : decode cX7_keep 0 = .ok (.aload_n 0, 1) := by decide +kernel
theorem dX7_keep_1 : decode cX7_keep 1 = .ok (.aload_n 0, 1) := by decide +kernel
theorem dX7_keep_2 : decode cX7_keep 2 = .ok (.getfield 107, 3) := by decide +kernel
theorem dX7_keep_5 : decode cX7_keep 5 = .ok (.putfield 163, 3) := by decide +kernel
theorem dX7_keep_8 : decode cX7_keep 8 = .ok (.iconst 0, 1) := by decide +kernel
theorem dX7_keep_9 : decode cX7_keep 9 = .ok (.istore_n 1, 1) := by decide +kernel
theorem dX7_keep_10 : decode cX7_keep 10 = .ok (.iload_n 1, 1) := by decide +kernel
theorem dX7_keep_11 : decode cX7_keep 11 = .ok (.aload_n 0, 1) := by decide +kernel
theorem dX7_keep_12 : decode cX7_keep 12 = .ok (.getfield 65, 3) := by decide +kernel
theorem dX7_keep_15 : decode cX7_keep 15 = .ok (.if_icmp .ge 21, 3) := by decide +kernel
theorem dX7_keep_18 : decode cX7_keep 18 = .ok (.aload_n 0, 1) := by decide +kernel
theorem dX7_keep_19 : decode cX7_keep 19 = .ok (.getfield 37, 3) := by decide +kernel
theorem dX7_keep_22 : decode cX7_keep 22 = .ok (.iload_n 1, 1) := by decide +kernel
theorem dX7_keep_23 : decode cX7_keep 23 = .ok (.aload_n 0, 1) := by decide +kernel
theorem dX7_keep_24 : decode cX7_keep 24 = .ok (.getfield 25, 3) := by decide +kernel
theorem dX7_keep_27 : decode cX7_keep 27 = .ok (.iload_n 1, 1) := by decide +kernel
theorem dX7_keep_28 : decode cX7_keep 28 = .ok (.iaload, 1) := by decide +kernel
theorem dX7_keep_29 : decode cX7_keep 29 = .ok (.iastore, 1) := by decide +kernel
theorem dX7_keep_30 : decode cX7_keep 30 = .ok (.iinc 1 1, 3) := by decide +kernel
theorem dX7_keep_33 : decode cX7_keep 33 = .ok (.goto (-23), 3) := by decide +kernel
theorem dX7_keep_36 : decode cX7_keep 36 = .ok (.return_, 1) := by decide +kernel
theorem dX7_putBack_0 : decode cX7_putBack 0 = .ok (.aload_n 0, 1) := by decide +kernel
theorem dX7_putBack_1 : decode cX7_putBack 1 = .ok (.aload_n 0, 1) := by decide +kernel
theorem dX7_putBack_2 : decode cX7_putBack 2 = .ok (.getfield 163, 3) := by decide +kernel
theorem dX7_putBack_5 : decode cX7_putBack 5 = .ok (.putfield 107, 3) := by decide +kernel
theorem dX7_putBack_8 : decode cX7_putBack 8 = .ok (.iconst 0, 1) := by decide +kernel
theorem dX7_putBack_9 : decode cX7_putBack 9 = .ok (.istore_n 1, 1) := by decide +kernel
theorem dX7_putBack_10 : decode cX7_putBack 10 = .ok (.iload_n 1, 1) := by decide +kernel
theorem dX7_putBack_11 : decode cX7_putBack 11 = .ok (.aload_n 0, 1) := by decide +kernel
theorem dX7_putBack_12 : decode cX7_putBack 12 = .ok (.getfield 65, 3) := by decide +kernel
theorem dX7_putBack_15 : decode cX7_putBack 15 = .ok (.if_icmp .ge 21, 3) := by decide +kernel
theorem dX7_putBack_18 : decode cX7_putBack 18 = .ok (.aload_n 0, 1) := by decide +kernel
theorem dX7_putBack_19 : decode cX7_putBack 19 = .ok (.getfield 25, 3) := by decide +kernel
theorem dX7_putBack_22 : decode cX7_putBack 22 = .ok (.iload_n 1, 1) := by decide +kernel
theorem dX7_putBack_23 : decode cX7_putBack 23 = .ok (.aload_n 0, 1) := by decide +kernel
theorem dX7_putBack_24 : decode cX7_putBack 24 = .ok (.getfield 37, 3) := by decide +kernel
theorem dX7_putBack_27 : decode cX7_putBack 27 = .ok (.iload_n 1, 1) := by decide +kernel
theorem dX7_putBack_28 : decode cX7_putBack 28 = .ok (.iaload, 1) := by decide +kernel
theorem dX7_putBack_29 : decode cX7_putBack 29 = .ok (.iastore, 1) := by decide +kernel
theorem dX7_putBack_30 : decode cX7_putBack 30 = .ok (.iinc 1 1, 3) := by decide +kernel
theorem dX7_putBack_33 : decode cX7_putBack 33 = .ok (.goto (-23), 3) := by decide +kernel
theorem dX7_putBack_36 : decode cX7_putBack 36 = .ok (.return_, 1) := by decide +kernel
set_option maxRecDepth 20000 in
theorem ggX7_refusesPairs_X7_isGallery : GoodIn wsX7_refusesPairs wsX7_isGallery := goodIn_r _ [6, 7, 13, 14, 15, 16, 17, 18, 19, 20, 21, 22, 23, 24, 25, 26, 27, 28, 29, 30, 31, 32, 33, 34, 35, 36, 37, 38, 39, 40, 41] (by decide +kernel) (by decide +kernel)
set_option maxRecDepth 20000 in
theorem gX7_refusesPairs_X7_isGallery : GoodIn wsX7_refusesPairs (wsV RX7 131 RX7 yX7_isGallery wsX7_isGallery) := goodIn_app (goodIn_of _ (by decide +kernel)) ggX7_refusesPairs_X7_isGallery
set_option maxRecDepth 20000 in
theorem ggX7_refusesPairs_X7_isWord : GoodIn wsX7_refusesPairs wsX7_isWord := goodIn_r _ [11, 12, 13, 14, 15, 16, 17, 18, 19, 20, 21, 22, 23, 24, 25, 26, 27, 28, 29, 30, 31, 32, 33, 34, 35, 36, 37, 38, 39, 40, 41] (by decide +kernel) (by decide +kernel)
set_option maxRecDepth 20000 in
theorem gX7_refusesPairs_X7_isWord : GoodIn wsX7_refusesPairs (wsV RX7 140 RX7 yX7_isWord wsX7_isWord) := goodIn_app (goodIn_of _ (by decide +kernel)) ggX7_refusesPairs_X7_isWord
theorem dX7_refusesPairs_0 : decode cX7_refusesPairs 0 = .ok (.iconst 0, 1) := by decide +kernel
theorem dX7_refusesPairs_1 : decode cX7_refusesPairs 1 = .ok (.istore_n 3, 1) := by decide +kernel
theorem dX7_refusesPairs_2 : decode cX7_refusesPairs 2 = .ok (.iload_n 3, 1) := by decide +kernel
theorem dX7_refusesPairs_3 : decode cX7_refusesPairs 3 = .ok (.iload_n 2, 1) := by decide +kernel
theorem dX7_refusesPairs_4 : decode cX7_refusesPairs 4 = .ok (.if_icmp .ge 47, 3) := by decide +kernel
theorem dX7_refusesPairs_7 : decode cX7_refusesPairs 7 = .ok (.aload_n 0, 1) := by decide +kernel
theorem dX7_refusesPairs_8 : decode cX7_refusesPairs 8 = .ok (.aload_n 0, 1) := by decide +kernel
theorem dX7_refusesPairs_9 : decode cX7_refusesPairs 9 = .ok (.getfield 16, 3) := by decide +kernel
theorem dX7_refusesPairs_12 : decode cX7_refusesPairs 12 = .ok (.iload_n 1, 1) := by decide +kernel
theorem dX7_refusesPairs_13 : decode cX7_refusesPairs 13 = .ok (.iconst 2, 1) := by decide +kernel
theorem dX7_refusesPairs_14 : decode cX7_refusesPairs 14 = .ok (.iload_n 3, 1) := by decide +kernel
theorem dX7_refusesPairs_15 : decode cX7_refusesPairs 15 = .ok (.imul, 1) := by decide +kernel
theorem dX7_refusesPairs_16 : decode cX7_refusesPairs 16 = .ok (.iadd, 1) := by decide +kernel
theorem dX7_refusesPairs_17 : decode cX7_refusesPairs 17 = .ok (.iaload, 1) := by decide +kernel
theorem dX7_refusesPairs_18 : decode cX7_refusesPairs 18 = .ok (.invokevirtual 131, 3) := by decide +kernel
theorem dX7_refusesPairs_21 : decode cX7_refusesPairs 21 = .ok (.ifCond .eq 22, 3) := by decide +kernel
theorem dX7_refusesPairs_24 : decode cX7_refusesPairs 24 = .ok (.aload_n 0, 1) := by decide +kernel
theorem dX7_refusesPairs_25 : decode cX7_refusesPairs 25 = .ok (.aload_n 0, 1) := by decide +kernel
theorem dX7_refusesPairs_26 : decode cX7_refusesPairs 26 = .ok (.getfield 16, 3) := by decide +kernel
theorem dX7_refusesPairs_29 : decode cX7_refusesPairs 29 = .ok (.iload_n 1, 1) := by decide +kernel
theorem dX7_refusesPairs_30 : decode cX7_refusesPairs 30 = .ok (.iconst 2, 1) := by decide +kernel
theorem dX7_refusesPairs_31 : decode cX7_refusesPairs 31 = .ok (.iload_n 3, 1) := by decide +kernel
theorem dX7_refusesPairs_32 : decode cX7_refusesPairs 32 = .ok (.imul, 1) := by decide +kernel
theorem dX7_refusesPairs_33 : decode cX7_refusesPairs 33 = .ok (.iadd, 1) := by decide +kernel
theorem dX7_refusesPairs_34 : decode cX7_refusesPairs 34 = .ok (.iconst 1, 1) := by decide +kernel
theorem dX7_refusesPairs_35 : decode cX7_refusesPairs 35 = .ok (.iadd, 1) := by decide +kernel
theorem dX7_refusesPairs_36 : decode cX7_refusesPairs 36 = .ok (.iaload, 1) := by decide +kernel
theorem dX7_refusesPairs_37 : decode cX7_refusesPairs 37 = .ok (.invokevirtual 140, 3) := by decide +kernel
theorem dX7_refusesPairs_40 : decode cX7_refusesPairs 40 = .ok (.ifCond .ne 5, 3) := by decide +kernel
theorem dX7_refusesPairs_43 : decode cX7_refusesPairs 43 = .ok (.iconst (-1), 1) := by decide +kernel
theorem dX7_refusesPairs_44 : decode cX7_refusesPairs 44 = .ok (.ireturn, 1) := by decide +kernel
theorem dX7_refusesPairs_45 : decode cX7_refusesPairs 45 = .ok (.iinc 3 1, 3) := by decide +kernel
theorem dX7_refusesPairs_48 : decode cX7_refusesPairs 48 = .ok (.goto (-46), 3) := by decide +kernel
theorem dX7_refusesPairs_51 : decode cX7_refusesPairs 51 = .ok (.iconst 0, 1) := by decide +kernel
theorem dX7_refusesPairs_52 : decode cX7_refusesPairs 52 = .ok (.ireturn, 1) := by decide +kernel
set_option maxRecDepth 20000 in
theorem ggX7_goShift_X7_breathe : GoodIn wsX7_goShift wsX7_breathe := goodIn_r _ [8, 9, 10, 11, 7, 12, 13, 14, 15, 16, 17, 18, 19, 20, 21, 22, 23, 24, 25, 26, 27, 28, 29, 30, 31, 32, 33, 34, 35, 36, 37, 41, 42, 43, 44, 45, 46, 47, 48, 49, 50, 51, 52, 53, 54, 55, 56, 57, 58, 59, 60, 61, 62, 63, 64, 65, 66, 67, 68, 69] (by decide +kernel) (by decide +kernel)
set_option maxRecDepth 20000 in
theorem gX7_goShift_X7_breathe : GoodIn wsX7_goShift (wsV RX7 157 RX7 yX7_breathe wsX7_breathe) := goodIn_app (goodIn_of _ (by decide +kernel)) ggX7_goShift_X7_breathe
set_option maxRecDepth 20000 in
theorem ggX7_goShift_X7_size : GoodIn wsX7_goShift wsX7_size := goodIn_r _ [40] (by decide +kernel) (by decide +kernel)
set_option maxRecDepth 20000 in
theorem gX7_goShift_X7_size : GoodIn wsX7_goShift (va_wsS RX7 160 yX7_size wsX7_size) := goodIn_app (goodIn_of _ (by decide +kernel)) ggX7_goShift_X7_size
theorem dX7_goShift_0 : decode cX7_goShift 0 = .ok (.aload_n 0, 1) := by decide +kernel
theorem dX7_goShift_1 : decode cX7_goShift 1 = .ok (.iconst 0, 1) := by decide +kernel
theorem dX7_goShift_2 : decode cX7_goShift 2 = .ok (.putfield 166, 3) := by decide +kernel
theorem dX7_goShift_5 : decode cX7_goShift 5 = .ok (.aload_n 0, 1) := by decide +kernel
theorem dX7_goShift_6 : decode cX7_goShift 6 = .ok (.bipush (-9), 2) := by decide +kernel
theorem dX7_goShift_8 : decode cX7_goShift 8 = .ok (.putfield 169, 3) := by decide +kernel
theorem dX7_goShift_11 : decode cX7_goShift 11 = .ok (.iconst 0, 1) := by decide +kernel
theorem dX7_goShift_12 : decode cX7_goShift 12 = .ok (.istore_n 3, 1) := by decide +kernel
theorem dX7_goShift_13 : decode cX7_goShift 13 = .ok (.iload_n 3, 1) := by decide +kernel
theorem dX7_goShift_14 : decode cX7_goShift 14 = .ok (.iload_n 2, 1) := by decide +kernel
theorem dX7_goShift_15 : decode cX7_goShift 15 = .ok (.if_icmp .ge 77, 3) := by decide +kernel
theorem dX7_goShift_18 : decode cX7_goShift 18 = .ok (.aload_n 0, 1) := by decide +kernel
theorem dX7_goShift_19 : decode cX7_goShift 19 = .ok (.aload_n 0, 1) := by decide +kernel
theorem dX7_goShift_20 : decode cX7_goShift 20 = .ok (.getfield 16, 3) := by decide +kernel
theorem dX7_goShift_23 : decode cX7_goShift 23 = .ok (.iload_n 1, 1) := by decide +kernel
theorem dX7_goShift_24 : decode cX7_goShift 24 = .ok (.iconst 2, 1) := by decide +kernel
theorem dX7_goShift_25 : decode cX7_goShift 25 = .ok (.iload_n 3, 1) := by decide +kernel
theorem dX7_goShift_26 : decode cX7_goShift 26 = .ok (.imul, 1) := by decide +kernel
theorem dX7_goShift_27 : decode cX7_goShift 27 = .ok (.iadd, 1) := by decide +kernel
theorem dX7_goShift_28 : decode cX7_goShift 28 = .ok (.iaload, 1) := by decide +kernel
theorem dX7_goShift_29 : decode cX7_goShift 29 = .ok (.aload_n 0, 1) := by decide +kernel
theorem dX7_goShift_30 : decode cX7_goShift 30 = .ok (.getfield 16, 3) := by decide +kernel
theorem dX7_goShift_33 : decode cX7_goShift 33 = .ok (.iload_n 1, 1) := by decide +kernel
theorem dX7_goShift_34 : decode cX7_goShift 34 = .ok (.iconst 2, 1) := by decide +kernel
theorem dX7_goShift_35 : decode cX7_goShift 35 = .ok (.iload_n 3, 1) := by decide +kernel
theorem dX7_goShift_36 : decode cX7_goShift 36 = .ok (.imul, 1) := by decide +kernel
theorem dX7_goShift_37 : decode cX7_goShift 37 = .ok (.iadd, 1) := by decide +kernel
theorem dX7_goShift_38 : decode cX7_goShift 38 = .ok (.iconst 1, 1) := by decide +kernel
theorem dX7_goShift_39 : decode cX7_goShift 39 = .ok (.iadd, 1) := by decide +kernel
theorem dX7_goShift_40 : decode cX7_goShift 40 = .ok (.iaload, 1) := by decide +kernel
theorem dX7_goShift_41 : decode cX7_goShift 41 = .ok (.invokevirtual 157, 3) := by decide +kernel
theorem dX7_goShift_44 : decode cX7_goShift 44 = .ok (.istore 4, 2) := by decide +kernel
theorem dX7_goShift_46 : decode cX7_goShift 46 = .ok (.aload_n 0, 1) := by decide +kernel
theorem dX7_goShift_47 : decode cX7_goShift 47 = .ok (.dup, 1) := by decide +kernel
theorem dX7_goShift_48 : decode cX7_goShift 48 = .ok (.getfield 166, 3) := by decide +kernel
theorem dX7_goShift_51 : decode cX7_goShift 51 = .ok (.iload 4, 2) := by decide +kernel
theorem dX7_goShift_53 : decode cX7_goShift 53 = .ok (.invokestatic 160, 3) := by decide +kernel
theorem dX7_goShift_56 : decode cX7_goShift 56 = .ok (.iadd, 1) := by decide +kernel
theorem dX7_goShift_57 : decode cX7_goShift 57 = .ok (.putfield 166, 3) := by decide +kernel
theorem dX7_goShift_60 : decode cX7_goShift 60 = .ok (.aload_n 0, 1) := by decide +kernel
theorem dX7_goShift_61 : decode cX7_goShift 61 = .ok (.aload_n 0, 1) := by decide +kernel
theorem dX7_goShift_62 : decode cX7_goShift 62 = .ok (.getfield 169, 3) := by decide +kernel
theorem dX7_goShift_65 : decode cX7_goShift 65 = .ok (.bipush (-9), 2) := by decide +kernel
theorem dX7_goShift_67 : decode cX7_goShift 67 = .ok (.if_icmp .ne 12, 3) := by decide +kernel
theorem dX7_goShift_70 : decode cX7_goShift 70 = .ok (.iload 4, 2) := by decide +kernel
theorem dX7_goShift_72 : decode cX7_goShift 72 = .ok (.ifCond .eq 7, 3) := by decide +kernel
theorem dX7_goShift_75 : decode cX7_goShift 75 = .ok (.iload_n 3, 1) := by decide +kernel
theorem dX7_goShift_76 : decode cX7_goShift 76 = .ok (.goto 7, 3) := by decide +kernel
theorem dX7_goShift_79 : decode cX7_goShift 79 = .ok (.aload_n 0, 1) := by decide +kernel
theorem dX7_goShift_80 : decode cX7_goShift 80 = .ok (.getfield 169, 3) := by decide +kernel
theorem dX7_goShift_83 : decode cX7_goShift 83 = .ok (.putfield 169, 3) := by decide +kernel
theorem dX7_goShift_86 : decode cX7_goShift 86 = .ok (.iinc 3 1, 3) := by decide +kernel
theorem dX7_goShift_89 : decode cX7_goShift 89 = .ok (.goto (-76), 3) := by decide +kernel
theorem dX7_goShift_92 : decode cX7_goShift 92 = .ok (.return_, 1) := by decide +kernel
set_option maxRecDepth 20000 in
theorem ggX7_refuses_X7_isSheet : GoodIn wsX7_refuses wsX7_isSheet := goodIn_r _ [5, 6, 7, 4, 8] (by decide +kernel) (by decide +kernel)
set_option maxRecDepth 20000 in
theorem gX7_refuses_X7_isSheet : GoodIn wsX7_refuses (va_wsS RX7 74 yX7_isSheet wsX7_isSheet) := goodIn_app (goodIn_of _ (by decide +kernel)) ggX7_refuses_X7_isSheet
set_option maxRecDepth 20000 in
theorem ggX7_refuses_X7_isSort : GoodIn wsX7_refuses wsX7_isSort := goodIn_r _ [11, 6, 7, 4, 8] (by decide +kernel) (by decide +kernel)
set_option maxRecDepth 20000 in
theorem gX7_refuses_X7_isSort : GoodIn wsX7_refuses (va_wsS RX7 78 yX7_isSort wsX7_isSort) := goodIn_app (goodIn_of _ (by decide +kernel)) ggX7_refuses_X7_isSort
set_option maxRecDepth 20000 in
theorem ggX7_refuses_X7_within : GoodIn wsX7_refuses wsX7_within := goodIn_r _ [8] (by decide +kernel) (by decide +kernel)
set_option maxRecDepth 20000 in
theorem gX7_refuses_X7_within : GoodIn wsX7_refuses (va_wsS RX7 61 yX7_within wsX7_within) := goodIn_app (goodIn_of _ (by decide +kernel)) ggX7_refuses_X7_within
set_option maxRecDepth 20000 in
theorem ggX7_refuses_X7_against : GoodIn wsX7_refuses wsX7_against := goodIn_r _ [15, 16, 17, 37, 38, 39, 40, 41, 42, 43, 44, 45, 46, 47, 48, 49, 50, 51, 52, 53, 54, 55, 56, 57, 58, 59, 60, 61, 62, 63, 64, 65] (by decide +kernel) (by decide +kernel)
set_option maxRecDepth 20000 in
theorem gX7_refuses_X7_against : GoodIn wsX7_refuses (wsV RX7 81 RX7 yX7_against wsX7_against) := goodIn_app (goodIn_of _ (by decide +kernel)) ggX7_refuses_X7_against
set_option maxRecDepth 20000 in
theorem ggX7_refuses_X7_fails : GoodIn wsX7_refuses wsX7_fails := goodIn_r _ [21, 22, 37, 38, 39, 40, 41, 42, 43, 44, 45, 46, 47, 48, 49, 50, 51, 52, 53, 54, 55, 56, 57, 58, 59, 60, 61, 62, 63, 64, 65] (by decide +kernel) (by decide +kernel)
set_option maxRecDepth 20000 in
theorem gX7_refuses_X7_fails : GoodIn wsX7_refuses (wsV RX7 85 RX7 yX7_fails wsX7_fails) := goodIn_app (goodIn_of _ (by decide +kernel)) ggX7_refuses_X7_fails
set_option maxRecDepth 20000 in
theorem ggX7_refuses_X7_refusesPairs : GoodIn wsX7_refuses wsX7_refusesPairs := goodIn_r _ [26, 27, 28, 29, 30, 4, 31, 1, 32, 33, 34, 35, 36, 37, 38, 39, 40, 41, 42, 43, 44, 45, 46, 47, 48, 49, 50, 51, 52, 53, 54, 55, 56, 57, 58, 59, 60, 61, 62, 63, 64, 65] (by decide +kernel) (by decide +kernel)
set_option maxRecDepth 20000 in
theorem gX7_refuses_X7_refusesPairs : GoodIn wsX7_refuses (wsV RX7 172 RX7 yX7_refusesPairs wsX7_refusesPairs) := goodIn_app (goodIn_of _ (by decide +kernel)) ggX7_refuses_X7_refusesPairs
theorem dX7_refuses_0 : decode cX7_refuses 0 = .ok (.iload_n 1, 1) := by decide +kernel
theorem dX7_refuses_1 : decode cX7_refuses 1 = .ok (.invokestatic 74, 3) := by decide +kernel
theorem dX7_refuses_4 : decode cX7_refuses 4 = .ok (.ifCond .ne 5, 3) := by decide +kernel
theorem dX7_refuses_7 : decode cX7_refuses 7 = .ok (.iconst (-1), 1) := by decide +kernel
theorem dX7_refuses_8 : decode cX7_refuses 8 = .ok (.ireturn, 1) := by decide +kernel
theorem dX7_refuses_9 : decode cX7_refuses 9 = .ok (.iload_n 2, 1) := by decide +kernel
theorem dX7_refuses_10 : decode cX7_refuses 10 = .ok (.invokestatic 78, 3) := by decide +kernel
theorem dX7_refuses_13 : decode cX7_refuses 13 = .ok (.ifCond .eq 19, 3) := by decide +kernel
theorem dX7_refuses_16 : decode cX7_refuses 16 = .ok (.iload 4, 2) := by decide +kernel
theorem dX7_refuses_18 : decode cX7_refuses 18 = .ok (.iconst 0, 1) := by decide +kernel
theorem dX7_refuses_19 : decode cX7_refuses 19 = .ok (.iload 5, 2) := by decide +kernel
theorem dX7_refuses_21 : decode cX7_refuses 21 = .ok (.invokestatic 61, 3) := by decide +kernel
theorem dX7_refuses_24 : decode cX7_refuses 24 = .ok (.ifCond .eq 8, 3) := by decide +kernel
theorem dX7_refuses_27 : decode cX7_refuses 27 = .ok (.iload 6, 2) := by decide +kernel
theorem dX7_refuses_29 : decode cX7_refuses 29 = .ok (.ifCond .ne 6, 3) := by decide +kernel
theorem dX7_refuses_32 : decode cX7_refuses 32 = .ok (.bipush (-2), 2) := by decide +kernel
theorem dX7_refuses_34 : decode cX7_refuses 34 = .ok (.ireturn, 1) := by decide +kernel
theorem dX7_refuses_35 : decode cX7_refuses 35 = .ok (.aload_n 0, 1) := by decide +kernel
theorem dX7_refuses_36 : decode cX7_refuses 36 = .ok (.iload_n 1, 1) := by decide +kernel
theorem dX7_refuses_37 : decode cX7_refuses 37 = .ok (.iload_n 2, 1) := by decide +kernel
theorem dX7_refuses_38 : decode cX7_refuses 38 = .ok (.iload_n 3, 1) := by decide +kernel
theorem dX7_refuses_39 : decode cX7_refuses 39 = .ok (.iconst 2, 1) := by decide +kernel
theorem dX7_refuses_40 : decode cX7_refuses 40 = .ok (.iload 4, 2) := by decide +kernel
theorem dX7_refuses_42 : decode cX7_refuses 42 = .ok (.imul, 1) := by decide +kernel
theorem dX7_refuses_43 : decode cX7_refuses 43 = .ok (.invokevirtual 81, 3) := by decide +kernel
theorem dX7_refuses_46 : decode cX7_refuses 46 = .ok (.istore 7, 2) := by decide +kernel
theorem dX7_refuses_48 : decode cX7_refuses 48 = .ok (.iload 7, 2) := by decide +kernel
theorem dX7_refuses_50 : decode cX7_refuses 50 = .ok (.ifCond .eq 10, 3) := by decide +kernel
theorem dX7_refuses_53 : decode cX7_refuses 53 = .ok (.aload_n 0, 1) := by decide +kernel
theorem dX7_refuses_54 : decode cX7_refuses 54 = .ok (.iload 7, 2) := by decide +kernel
theorem dX7_refuses_56 : decode cX7_refuses 56 = .ok (.invokevirtual 85, 3) := by decide +kernel
theorem dX7_refuses_59 : decode cX7_refuses 59 = .ok (.ireturn, 1) := by decide +kernel
theorem dX7_refuses_60 : decode cX7_refuses 60 = .ok (.aload_n 0, 1) := by decide +kernel
theorem dX7_refuses_61 : decode cX7_refuses 61 = .ok (.getfield 65, 3) := by decide +kernel
theorem dX7_refuses_64 : decode cX7_refuses 64 = .ok (.ifCond .ne 8, 3) := by decide +kernel
theorem dX7_refuses_67 : decode cX7_refuses 67 = .ok (.bipush (-3), 2) := by decide +kernel
theorem dX7_refuses_69 : decode cX7_refuses 69 = .ok (.goto 15, 3) := by decide +kernel
theorem dX7_refuses_72 : decode cX7_refuses 72 = .ok (.aload_n 0, 1) := by decide +kernel
theorem dX7_refuses_73 : decode cX7_refuses 73 = .ok (.bipush 60, 2) := by decide +kernel
theorem dX7_refuses_75 : decode cX7_refuses 75 = .ok (.iload_n 1, 1) := by decide +kernel
theorem dX7_refuses_76 : decode cX7_refuses 76 = .ok (.imul, 1) := by decide +kernel
theorem dX7_refuses_77 : decode cX7_refuses 77 = .ok (.iload_n 3, 1) := by decide +kernel
theorem dX7_refuses_78 : decode cX7_refuses 78 = .ok (.iadd, 1) := by decide +kernel
theorem dX7_refuses_79 : decode cX7_refuses 79 = .ok (.iload 4, 2) := by decide +kernel
theorem dX7_refuses_81 : decode cX7_refuses 81 = .ok (.invokevirtual 172, 3) := by decide +kernel
theorem dX7_refuses_84 : decode cX7_refuses 84 = .ok (.ireturn, 1) := by decide +kernel
set_option maxRecDepth 20000 in
theorem ggX7_shift_X7_within : GoodIn wsX7_shift wsX7_within := goodIn_r _ [5] (by decide +kernel) (by decide +kernel)
set_option maxRecDepth 20000 in
theorem gX7_shift_X7_within : GoodIn wsX7_shift (va_wsS RX7 61 yX7_within wsX7_within) := goodIn_app (goodIn_of _ (by decide +kernel)) ggX7_shift_X7_within
set_option maxRecDepth 20000 in
theorem ggX7_shift_X7_refuses : GoodIn wsX7_shift wsX7_refuses := goodIn_r _ [9, 10, 11, 12, 4, 13, 2, 3, 5, 14, 15, 16, 17, 18, 19, 20, 21, 22, 23, 24, 25, 26, 1, 27, 28, 29, 30, 31, 32, 33, 34, 35, 36, 37, 38, 39, 40, 96, 97, 98, 99, 100, 101, 102, 103, 104, 105, 106, 107, 108, 109, 110, 111, 112, 113, 114, 115, 116, 117, 118, 119, 120, 121, 122, 123, 124] (by decide +kernel) (by decide +kernel)
set_option maxRecDepth 20000 in
theorem gX7_shift_X7_refuses : GoodIn wsX7_shift (wsV RX7 175 RX7 yX7_refuses wsX7_refuses) := goodIn_app (goodIn_of _ (by decide +kernel)) ggX7_shift_X7_refuses
set_option maxRecDepth 20000 in
theorem ggX7_shift_X7_keep : GoodIn wsX7_shift wsX7_keep := goodIn_r _ [44, 45, 46, 10, 47, 48, 96, 97, 98, 99, 100, 101, 102, 103, 104, 105, 106, 107, 108, 109, 110, 111, 112, 113, 114, 115, 116, 117, 118, 119, 120, 121, 122, 123, 124] (by decide +kernel) (by decide +kernel)
set_option maxRecDepth 20000 in
theorem gX7_shift_X7_keep : GoodIn wsX7_shift (wsV RX7 179 RX7 yX7_keep wsX7_keep) := goodIn_app (goodIn_of _ (by decide +kernel)) ggX7_shift_X7_keep
set_option maxRecDepth 20000 in
theorem ggX7_shift_X7_goShift : GoodIn wsX7_shift wsX7_goShift := goodIn_r _ [52, 53, 54, 31, 55, 56, 57, 4, 58, 59, 60, 61, 62, 48, 63, 64, 65, 66, 67, 10, 68, 69, 70, 71, 72, 73, 74, 75, 45, 76, 77, 78, 79, 80, 81, 82, 83, 84, 85, 86, 87, 96, 97, 98, 99, 100, 101, 102, 103, 104, 105, 106, 107, 108, 109, 110, 111, 112, 113, 114, 115, 116, 117, 118, 119, 120, 121, 122, 123, 124] (by decide +kernel) (by decide +kernel)
set_option maxRecDepth 20000 in
theorem gX7_shift_X7_goShift : GoodIn wsX7_shift (wsV RX7 182 RX7 yX7_goShift wsX7_goShift) := goodIn_app (goodIn_of _ (by decide +kernel)) ggX7_shift_X7_goShift
set_option maxRecDepth 20000 in
theorem ggX7_shift_X7_tellShift : GoodIn wsX7_shift wsX7_tellShift := goodIn_r _ [91, 48, 53, 54, 45, 10, 32, 33, 34, 4, 35, 96, 97, 98, 99, 100, 101, 102, 103, 104, 105, 106, 107, 108, 109, 110, 111, 112, 113, 114, 115, 116, 117, 118, 119, 120, 121, 122, 123, 124] (by decide +kernel) (by decide +kernel)
set_option maxRecDepth 20000 in
theorem gX7_shift_X7_tellShift : GoodIn wsX7_shift (wsV RX7 185 RX7 yX7_tellShift wsX7_tellShift) := goodIn_app (goodIn_of _ (by decide +kernel)) ggX7_shift_X7_tellShift
set_option maxRecDepth 20000 in
theorem ggX7_shift_X7_putBack : GoodIn wsX7_shift wsX7_putBack := goodIn_r _ [95, 46, 45, 10, 48, 47, 96, 97, 98, 99, 100, 101, 102, 103, 104, 105, 106, 107, 108, 109, 110, 111, 112, 113, 114, 115, 116, 117, 118, 119, 120, 121, 122, 123, 124] (by decide +kernel) (by decide +kernel)
set_option maxRecDepth 20000 in
theorem gX7_shift_X7_putBack : GoodIn wsX7_shift (wsV RX7 188 RX7 yX7_putBack wsX7_putBack) := goodIn_app (goodIn_of _ (by decide +kernel)) ggX7_shift_X7_putBack
theorem dX7_shift_0 : decode cX7_shift 0 = .ok (.aload_n 0, 1) := by decide +kernel
theorem dX7_shift_1 : decode cX7_shift 1 = .ok (.iconst 0, 1) := by decide +kernel
theorem dX7_shift_2 : decode cX7_shift 2 = .ok (.putfield 55, 3) := by decide +kernel
theorem dX7_shift_5 : decode cX7_shift 5 = .ok (.aload_n 0, 1) := by decide +kernel
theorem dX7_shift_6 : decode cX7_shift 6 = .ok (.iload_n 1, 1) := by decide +kernel
theorem dX7_shift_7 : decode cX7_shift 7 = .ok (.iload_n 2, 1) := by decide +kernel
theorem dX7_shift_8 : decode cX7_shift 8 = .ok (.iload_n 3, 1) := by decide +kernel
theorem dX7_shift_9 : decode cX7_shift 9 = .ok (.iload 4, 2) := by decide +kernel
theorem dX7_shift_11 : decode cX7_shift 11 = .ok (.bipush 20, 2) := by decide +kernel
theorem dX7_shift_13 : decode cX7_shift 13 = .ok (.iload 5, 2) := by decide +kernel
theorem dX7_shift_15 : decode cX7_shift 15 = .ok (.iconst 0, 1) := by decide +kernel
theorem dX7_shift_16 : decode cX7_shift 16 = .ok (.iconst 3, 1) := by decide +kernel
theorem dX7_shift_17 : decode cX7_shift 17 = .ok (.invokestatic 61, 3) := by decide +kernel
theorem dX7_shift_20 : decode cX7_shift 20 = .ok (.ifCond .ne 15, 3) := by decide +kernel
theorem dX7_shift_23 : decode cX7_shift 23 = .ok (.iload 5, 2) := by decide +kernel
theorem dX7_shift_25 : decode cX7_shift 25 = .ok (.bipush 10, 2) := by decide +kernel
theorem dX7_shift_27 : decode cX7_shift 27 = .ok (.bipush 15, 2) := by decide +kernel
theorem dX7_shift_29 : decode cX7_shift 29 = .ok (.invokestatic 61, 3) := by decide +kernel
theorem dX7_shift_32 : decode cX7_shift 32 = .ok (.ifCond .eq 7, 3) := by decide +kernel
theorem dX7_shift_35 : decode cX7_shift 35 = .ok (.iconst 1, 1) := by decide +kernel
theorem dX7_shift_36 : decode cX7_shift 36 = .ok (.goto 4, 3) := by decide +kernel
theorem dX7_shift_39 : decode cX7_shift 39 = .ok (.iconst 0, 1) := by decide +kernel
theorem dX7_shift_40 : decode cX7_shift 40 = .ok (.invokevirtual 175, 3) := by decide +kernel
theorem dX7_shift_43 : decode cX7_shift 43 = .ok (.istore 6, 2) := by decide +kernel
theorem dX7_shift_45 : decode cX7_shift 45 = .ok (.iload 6, 2) := by decide +kernel
theorem dX7_shift_47 : decode cX7_shift 47 = .ok (.ifCond .eq 6, 3) := by decide +kernel
theorem dX7_shift_50 : decode cX7_shift 50 = .ok (.iload 6, 2) := by decide +kernel
theorem dX7_shift_52 : decode cX7_shift 52 = .ok (.ireturn, 1) := by decide +kernel
theorem dX7_shift_53 : decode cX7_shift 53 = .ok (.aload_n 0, 1) := by decide +kernel
theorem dX7_shift_54 : decode cX7_shift 54 = .ok (.invokevirtual 179, 3) := by decide +kernel
theorem dX7_shift_57 : decode cX7_shift 57 = .ok (.aload_n 0, 1) := by decide +kernel
theorem dX7_shift_58 : decode cX7_shift 58 = .ok (.bipush 60, 2) := by decide +kernel
theorem dX7_shift_60 : decode cX7_shift 60 = .ok (.iload_n 1, 1) := by decide +kernel
theorem dX7_shift_61 : decode cX7_shift 61 = .ok (.imul, 1) := by decide +kernel
theorem dX7_shift_62 : decode cX7_shift 62 = .ok (.iload_n 3, 1) := by decide +kernel
theorem dX7_shift_63 : decode cX7_shift 63 = .ok (.iadd, 1) := by decide +kernel
theorem dX7_shift_64 : decode cX7_shift 64 = .ok (.iload 4, 2) := by decide +kernel
theorem dX7_shift_66 : decode cX7_shift 66 = .ok (.invokevirtual 182, 3) := by decide +kernel
theorem dX7_shift_69 : decode cX7_shift 69 = .ok (.aload_n 0, 1) := by decide +kernel
theorem dX7_shift_70 : decode cX7_shift 70 = .ok (.iload 5, 2) := by decide +kernel
theorem dX7_shift_72 : decode cX7_shift 72 = .ok (.invokevirtual 185, 3) := by decide +kernel
theorem dX7_shift_75 : decode cX7_shift 75 = .ok (.istore 7, 2) := by decide +kernel
theorem dX7_shift_77 : decode cX7_shift 77 = .ok (.aload_n 0, 1) := by decide +kernel
theorem dX7_shift_78 : decode cX7_shift 78 = .ok (.invokevirtual 188, 3) := by decide +kernel
theorem dX7_shift_81 : decode cX7_shift 81 = .ok (.iload 7, 2) := by decide +kernel
theorem dX7_shift_83 : decode cX7_shift 83 = .ok (.ireturn, 1) := by decide +kernel
set_option maxRecDepth 20000 in
theorem ggX7_tellShift_X7_isGallery : GoodIn wsX7_tellShift wsX7_isGallery := goodIn_r _ [10, 5, 11, 12, 13, 14, 15, 16, 17, 18, 19, 20, 21, 22, 23, 24, 25, 26, 27, 28, 29, 30, 31, 32, 33, 34, 35, 36, 37, 38, 39] (by decide +kernel) (by decide +kernel)
set_option maxRecDepth 20000 in
theorem gX7_tellShift_X7_isGallery : GoodIn wsX7_tellShift (wsV RX7 131 RX7 yX7_isGallery wsX7_isGallery) := goodIn_app (goodIn_of _ (by decide +kernel)) ggX7_tellShift_X7_isGallery
theorem dX7_tellShift_0 : decode cX7_tellShift 0 = .ok (.iload_n 1, 1) := by decide +kernel
theorem dX7_tellShift_1 : decode cX7_tellShift 1 = .ok (.bipush 10, 2) := by decide +kernel
theorem dX7_tellShift_3 : decode cX7_tellShift 3 = .ok (.if_icmp .lt 29, 3) := by decide +kernel
theorem dX7_tellShift_6 : decode cX7_tellShift 6 = .ok (.aload_n 0, 1) := by decide +kernel
theorem dX7_tellShift_7 : decode cX7_tellShift 7 = .ok (.iload_n 1, 1) := by decide +kernel
theorem dX7_tellShift_8 : decode cX7_tellShift 8 = .ok (.bipush 10, 2) := by decide +kernel
theorem dX7_tellShift_10 : decode cX7_tellShift 10 = .ok (.isub, 1) := by decide +kernel
theorem dX7_tellShift_11 : decode cX7_tellShift 11 = .ok (.invokevirtual 131, 3) := by decide +kernel
theorem dX7_tellShift_14 : decode cX7_tellShift 14 = .ok (.ifCond .eq 15, 3) := by decide +kernel
theorem dX7_tellShift_17 : decode cX7_tellShift 17 = .ok (.aload_n 0, 1) := by decide +kernel
theorem dX7_tellShift_18 : decode cX7_tellShift 18 = .ok (.getfield 25, 3) := by decide +kernel
theorem dX7_tellShift_21 : decode cX7_tellShift 21 = .ok (.iload_n 1, 1) := by decide +kernel
theorem dX7_tellShift_22 : decode cX7_tellShift 22 = .ok (.bipush 10, 2) := by decide +kernel
theorem dX7_tellShift_24 : decode cX7_tellShift 24 = .ok (.isub, 1) := by decide +kernel
theorem dX7_tellShift_25 : decode cX7_tellShift 25 = .ok (.iaload, 1) := by decide +kernel
theorem dX7_tellShift_26 : decode cX7_tellShift 26 = .ok (.goto 5, 3) := by decide +kernel
theorem dX7_tellShift_29 : decode cX7_tellShift 29 = .ok (.bipush (-9), 2) := by decide +kernel
theorem dX7_tellShift_31 : decode cX7_tellShift 31 = .ok (.ireturn, 1) := by decide +kernel
theorem dX7_tellShift_32 : decode cX7_tellShift 32 = .ok (.iload_n 1, 1) := by decide +kernel
theorem dX7_tellShift_33 : decode cX7_tellShift 33 = .ok (.iconst 3, 1) := by decide +kernel
theorem dX7_tellShift_34 : decode cX7_tellShift 34 = .ok (.if_icmp .ge 31, 3) := by decide +kernel
theorem dX7_tellShift_37 : decode cX7_tellShift 37 = .ok (.iload_n 1, 1) := by decide +kernel
theorem dX7_tellShift_38 : decode cX7_tellShift 38 = .ok (.ifCond .ne 10, 3) := by decide +kernel
theorem dX7_tellShift_41 : decode cX7_tellShift 41 = .ok (.aload_n 0, 1) := by decide +kernel
theorem dX7_tellShift_42 : decode cX7_tellShift 42 = .ok (.getfield 166, 3) := by decide +kernel
theorem dX7_tellShift_45 : decode cX7_tellShift 45 = .ok (.goto 19, 3) := by decide +kernel
theorem dX7_tellShift_48 : decode cX7_tellShift 48 = .ok (.iload_n 1, 1) := by decide +kernel
theorem dX7_tellShift_49 : decode cX7_tellShift 49 = .ok (.iconst 1, 1) := by decide +kernel
theorem dX7_tellShift_50 : decode cX7_tellShift 50 = .ok (.if_icmp .ne 10, 3) := by decide +kernel
theorem dX7_tellShift_53 : decode cX7_tellShift 53 = .ok (.aload_n 0, 1) := by decide +kernel
theorem dX7_tellShift_54 : decode cX7_tellShift 54 = .ok (.getfield 169, 3) := by decide +kernel
theorem dX7_tellShift_57 : decode cX7_tellShift 57 = .ok (.goto 7, 3) := by decide +kernel
theorem dX7_tellShift_60 : decode cX7_tellShift 60 = .ok (.aload_n 0, 1) := by decide +kernel
theorem dX7_tellShift_61 : decode cX7_tellShift 61 = .ok (.getfield 107, 3) := by decide +kernel
theorem dX7_tellShift_64 : decode cX7_tellShift 64 = .ok (.ireturn, 1) := by decide +kernel
theorem dX7_tellShift_65 : decode cX7_tellShift 65 = .ok (.iconst 0, 1) := by decide +kernel
theorem dX7_tellShift_66 : decode cX7_tellShift 66 = .ok (.istore_n 2, 1) := by decide +kernel
theorem dX7_tellShift_67 : decode cX7_tellShift 67 = .ok (.iconst 0, 1) := by decide +kernel
theorem dX7_tellShift_68 : decode cX7_tellShift 68 = .ok (.istore_n 3, 1) := by decide +kernel
theorem dX7_tellShift_69 : decode cX7_tellShift 69 = .ok (.iload_n 3, 1) := by decide +kernel
theorem dX7_tellShift_70 : decode cX7_tellShift 70 = .ok (.aload_n 0, 1) := by decide +kernel
theorem dX7_tellShift_71 : decode cX7_tellShift 71 = .ok (.getfield 65, 3) := by decide +kernel
theorem dX7_tellShift_74 : decode cX7_tellShift 74 = .ok (.if_icmp .ge 18, 3) := by decide +kernel
theorem dX7_tellShift_77 : decode cX7_tellShift 77 = .ok (.iload_n 2, 1) := by decide +kernel
theorem dX7_tellShift_78 : decode cX7_tellShift 78 = .ok (.aload_n 0, 1) := by decide +kernel
theorem dX7_tellShift_79 : decode cX7_tellShift 79 = .ok (.getfield 25, 3) := by decide +kernel
theorem dX7_tellShift_82 : decode cX7_tellShift 82 = .ok (.iload_n 3, 1) := by decide +kernel
theorem dX7_tellShift_83 : decode cX7_tellShift 83 = .ok (.iaload, 1) := by decide +kernel
theorem dX7_tellShift_84 : decode cX7_tellShift 84 = .ok (.iadd, 1) := by decide +kernel
theorem dX7_tellShift_85 : decode cX7_tellShift 85 = .ok (.istore_n 2, 1) := by decide +kernel
theorem dX7_tellShift_86 : decode cX7_tellShift 86 = .ok (.iinc 3 1, 3) := by decide +kernel
theorem dX7_tellShift_89 : decode cX7_tellShift 89 = .ok (.goto (-20), 3) := by decide +kernel
theorem dX7_tellShift_92 : decode cX7_tellShift 92 = .ok (.iload_n 2, 1) := by decide +kernel
theorem dX7_tellShift_93 : decode cX7_tellShift 93 = .ok (.ireturn, 1) := by decide +kernel
set_option maxRecDepth 20000 in
theorem ggX7_orderOf_X7_isOf : GoodIn wsX7_orderOf wsX7_isOf := goodIn_r _ [5] (by decide +kernel) (by decide +kernel)
set_option maxRecDepth 20000 in
theorem gX7_orderOf_X7_isOf : GoodIn wsX7_orderOf (va_wsS RX7 143 yX7_isOf wsX7_isOf) := goodIn_app (goodIn_of _ (by decide +kernel)) ggX7_orderOf_X7_isOf
theorem dX7_orderOf_0 : decode cX7_orderOf 0 = .ok (.iload_n 1, 1) := by decide +kernel
theorem dX7_orderOf_1 : decode cX7_orderOf 1 = .ok (.istore_n 3, 1) := by decide +kernel
theorem dX7_orderOf_2 : decode cX7_orderOf 2 = .ok (.iconst 1, 1) := by decide +kernel
theorem dX7_orderOf_3 : decode cX7_orderOf 3 = .ok (.istore 4, 2) := by decide +kernel
theorem dX7_orderOf_5 : decode cX7_orderOf 5 = .ok (.iconst 2, 1) := by decide +kernel
theorem dX7_orderOf_6 : decode cX7_orderOf 6 = .ok (.istore 5, 2) := by decide +kernel
theorem dX7_orderOf_8 : decode cX7_orderOf 8 = .ok (.iload 5, 2) := by decide +kernel
theorem dX7_orderOf_10 : decode cX7_orderOf 10 = .ok (.iload_n 2, 1) := by decide +kernel
theorem dX7_orderOf_11 : decode cX7_orderOf 11 = .ok (.if_icmp .ge 16, 3) := by decide +kernel
theorem dX7_orderOf_14 : decode cX7_orderOf 14 = .ok (.iload 4, 2) := by decide +kernel
theorem dX7_orderOf_16 : decode cX7_orderOf 16 = .ok (.iload 5, 2) := by decide +kernel
theorem dX7_orderOf_18 : decode cX7_orderOf 18 = .ok (.imul, 1) := by decide +kernel
theorem dX7_orderOf_19 : decode cX7_orderOf 19 = .ok (.istore 4, 2) := by decide +kernel
theorem dX7_orderOf_21 : decode cX7_orderOf 21 = .ok (.iinc 5 1, 3) := by decide +kernel
theorem dX7_orderOf_24 : decode cX7_orderOf 24 = .ok (.goto (-16), 3) := by decide +kernel
theorem dX7_orderOf_27 : decode cX7_orderOf 27 = .ok (.iconst 0, 1) := by decide +kernel
theorem dX7_orderOf_28 : decode cX7_orderOf 28 = .ok (.istore 5, 2) := by decide +kernel
theorem dX7_orderOf_30 : decode cX7_orderOf 30 = .ok (.iconst 0, 1) := by decide +kernel
theorem dX7_orderOf_31 : decode cX7_orderOf 31 = .ok (.istore 6, 2) := by decide +kernel
theorem dX7_orderOf_33 : decode cX7_orderOf 33 = .ok (.iload 6, 2) := by decide +kernel
theorem dX7_orderOf_35 : decode cX7_orderOf 35 = .ok (.iload_n 2, 1) := by decide +kernel
theorem dX7_orderOf_36 : decode cX7_orderOf 36 = .ok (.if_icmp .ge 107, 3) := by decide +kernel
theorem dX7_orderOf_39 : decode cX7_orderOf 39 = .ok (.iload_n 3, 1) := by decide +kernel
theorem dX7_orderOf_40 : decode cX7_orderOf 40 = .ok (.iload 4, 2) := by decide +kernel
theorem dX7_orderOf_42 : decode cX7_orderOf 42 = .ok (.idiv, 1) := by decide +kernel
theorem dX7_orderOf_43 : decode cX7_orderOf 43 = .ok (.istore 7, 2) := by decide +kernel
theorem dX7_orderOf_45 : decode cX7_orderOf 45 = .ok (.iload_n 3, 1) := by decide +kernel
theorem dX7_orderOf_46 : decode cX7_orderOf 46 = .ok (.iload 4, 2) := by decide +kernel
theorem dX7_orderOf_48 : decode cX7_orderOf 48 = .ok (.irem, 1) := by decide +kernel
theorem dX7_orderOf_49 : decode cX7_orderOf 49 = .ok (.istore_n 3, 1) := by decide +kernel
theorem dX7_orderOf_50 : decode cX7_orderOf 50 = .ok (.iconst 0, 1) := by decide +kernel
theorem dX7_orderOf_51 : decode cX7_orderOf 51 = .ok (.istore 8, 2) := by decide +kernel
theorem dX7_orderOf_53 : decode cX7_orderOf 53 = .ok (.iload 5, 2) := by decide +kernel
theorem dX7_orderOf_55 : decode cX7_orderOf 55 = .ok (.iload 8, 2) := by decide +kernel
theorem dX7_orderOf_57 : decode cX7_orderOf 57 = .ok (.invokestatic 143, 3) := by decide +kernel
theorem dX7_orderOf_60 : decode cX7_orderOf 60 = .ok (.ifCond .ne 8, 3) := by decide +kernel
theorem dX7_orderOf_63 : decode cX7_orderOf 63 = .ok (.iload 7, 2) := by decide +kernel
theorem dX7_orderOf_65 : decode cX7_orderOf 65 = .ok (.ifCond .le 29, 3) := by decide +kernel
theorem dX7_orderOf_68 : decode cX7_orderOf 68 = .ok (.iload 7, 2) := by decide +kernel
theorem dX7_orderOf_70 : decode cX7_orderOf 70 = .ok (.iload 5, 2) := by decide +kernel
theorem dX7_orderOf_72 : decode cX7_orderOf 72 = .ok (.iload 8, 2) := by decide +kernel
theorem dX7_orderOf_74 : decode cX7_orderOf 74 = .ok (.invokestatic 143, 3) := by decide +kernel
theorem dX7_orderOf_77 : decode cX7_orderOf 77 = .ok (.ifCond .eq 7, 3) := by decide +kernel
theorem dX7_orderOf_80 : decode cX7_orderOf 80 = .ok (.iconst 0, 1) := by decide +kernel
theorem dX7_orderOf_81 : decode cX7_orderOf 81 = .ok (.goto 4, 3) := by decide +kernel
theorem dX7_orderOf_84 : decode cX7_orderOf 84 = .ok (.iconst 1, 1) := by decide +kernel
theorem dX7_orderOf_85 : decode cX7_orderOf 85 = .ok (.isub, 1) := by decide +kernel
theorem dX7_orderOf_86 : decode cX7_orderOf 86 = .ok (.istore 7, 2) := by decide +kernel
theorem dX7_orderOf_88 : decode cX7_orderOf 88 = .ok (.iinc 8 1, 3) := by decide +kernel
theorem dX7_orderOf_91 : decode cX7_orderOf 91 = .ok (.goto (-38), 3) := by decide +kernel
theorem dX7_orderOf_94 : decode cX7_orderOf 94 = .ok (.aload_n 0, 1) := by decide +kernel
theorem dX7_orderOf_95 : decode cX7_orderOf 95 = .ok (.getfield 40, 3) := by decide +kernel
theorem dX7_orderOf_98 : decode cX7_orderOf 98 = .ok (.iload 6, 2) := by decide +kernel
theorem dX7_orderOf_100 : decode cX7_orderOf 100 = .ok (.iload 8, 2) := by decide +kernel
theorem dX7_orderOf_102 : decode cX7_orderOf 102 = .ok (.iastore, 1) := by decide +kernel
theorem dX7_orderOf_103 : decode cX7_orderOf 103 = .ok (.iload 5, 2) := by decide +kernel
theorem dX7_orderOf_105 : decode cX7_orderOf 105 = .ok (.iconst 1, 1) := by decide +kernel
theorem dX7_orderOf_106 : decode cX7_orderOf 106 = .ok (.iload 8, 2) := by decide +kernel
theorem dX7_orderOf_108 : decode cX7_orderOf 108 = .ok (.ishl, 1) := by decide +kernel
theorem dX7_orderOf_109 : decode cX7_orderOf 109 = .ok (.ior, 1) := by decide +kernel
theorem dX7_orderOf_110 : decode cX7_orderOf 110 = .ok (.istore 5, 2) := by decide +kernel
theorem dX7_orderOf_112 : decode cX7_orderOf 112 = .ok (.iload_n 2, 1) := by decide +kernel
theorem dX7_orderOf_113 : decode cX7_orderOf 113 = .ok (.iload 6, 2) := by decide +kernel
theorem dX7_orderOf_115 : decode cX7_orderOf 115 = .ok (.isub, 1) := by decide +kernel
theorem dX7_orderOf_116 : decode cX7_orderOf 116 = .ok (.iconst 1, 1) := by decide +kernel
theorem dX7_orderOf_117 : decode cX7_orderOf 117 = .ok (.isub, 1) := by decide +kernel
theorem dX7_orderOf_118 : decode cX7_orderOf 118 = .ok (.iconst 1, 1) := by decide +kernel
theorem dX7_orderOf_119 : decode cX7_orderOf 119 = .ok (.if_icmp .le 15, 3) := by decide +kernel
theorem dX7_orderOf_122 : decode cX7_orderOf 122 = .ok (.iload 4, 2) := by decide +kernel
theorem dX7_orderOf_124 : decode cX7_orderOf 124 = .ok (.iload_n 2, 1) := by decide +kernel
theorem dX7_orderOf_125 : decode cX7_orderOf 125 = .ok (.iload 6, 2) := by decide +kernel
theorem dX7_orderOf_127 : decode cX7_orderOf 127 = .ok (.isub, 1) := by decide +kernel
theorem dX7_orderOf_128 : decode cX7_orderOf 128 = .ok (.iconst 1, 1) := by decide +kernel
theorem dX7_orderOf_129 : decode cX7_orderOf 129 = .ok (.isub, 1) := by decide +kernel
theorem dX7_orderOf_130 : decode cX7_orderOf 130 = .ok (.idiv, 1) := by decide +kernel
theorem dX7_orderOf_131 : decode cX7_orderOf 131 = .ok (.goto 4, 3) := by decide +kernel
theorem dX7_orderOf_134 : decode cX7_orderOf 134 = .ok (.iconst 1, 1) := by decide +kernel
theorem dX7_orderOf_135 : decode cX7_orderOf 135 = .ok (.istore 4, 2) := by decide +kernel
theorem dX7_orderOf_137 : decode cX7_orderOf 137 = .ok (.iinc 6 1, 3) := by decide +kernel
theorem dX7_orderOf_140 : decode cX7_orderOf 140 = .ok (.goto (-107), 3) := by decide +kernel
theorem dX7_orderOf_143 : decode cX7_orderOf 143 = .ok (.return_, 1) := by decide +kernel
theorem dX7_ordersOf_0 : decode cX7_ordersOf 0 = .ok (.iconst 1, 1) := by decide +kernel
theorem dX7_ordersOf_1 : decode cX7_ordersOf 1 = .ok (.istore_n 1, 1) := by decide +kernel
theorem dX7_ordersOf_2 : decode cX7_ordersOf 2 = .ok (.iconst 2, 1) := by decide +kernel
theorem dX7_ordersOf_3 : decode cX7_ordersOf 3 = .ok (.istore_n 2, 1) := by decide +kernel
theorem dX7_ordersOf_4 : decode cX7_ordersOf 4 = .ok (.iload_n 2, 1) := by decide +kernel
theorem dX7_ordersOf_5 : decode cX7_ordersOf 5 = .ok (.iload_n 0, 1) := by decide +kernel
theorem dX7_ordersOf_6 : decode cX7_ordersOf 6 = .ok (.if_icmp .gt 13, 3) := by decide +kernel
theorem dX7_ordersOf_9 : decode cX7_ordersOf 9 = .ok (.iload_n 1, 1) := by decide +kernel
theorem dX7_ordersOf_10 : decode cX7_ordersOf 10 = .ok (.iload_n 2, 1) := by decide +kernel
theorem dX7_ordersOf_11 : decode cX7_ordersOf 11 = .ok (.imul, 1) := by decide +kernel
theorem dX7_ordersOf_12 : decode cX7_ordersOf 12 = .ok (.istore_n 1, 1) := by decide +kernel
theorem dX7_ordersOf_13 : decode cX7_ordersOf 13 = .ok (.iinc 2 1, 3) := by decide +kernel
theorem dX7_ordersOf_16 : decode cX7_ordersOf 16 = .ok (.goto (-12), 3) := by decide +kernel
theorem dX7_ordersOf_19 : decode cX7_ordersOf 19 = .ok (.iload_n 1, 1) := by decide +kernel
theorem dX7_ordersOf_20 : decode cX7_ordersOf 20 = .ok (.ireturn, 1) := by decide +kernel
set_option maxRecDepth 20000 in
theorem ggX7_isQuiet_X7_keep : GoodIn wsX7_isQuiet wsX7_keep := goodIn_r _ [7, 8, 9, 10, 11, 12, 47, 48, 49, 50, 51, 52, 53, 54, 55, 56, 57, 58, 59, 60, 61, 62, 63, 64, 65, 66, 67, 68, 69, 70, 71, 72, 73, 74, 75] (by decide +kernel) (by decide +kernel)
set_option maxRecDepth 20000 in
theorem gX7_isQuiet_X7_keep : GoodIn wsX7_isQuiet (wsV RX7 179 RX7 yX7_keep wsX7_keep) := goodIn_app (goodIn_of _ (by decide +kernel)) ggX7_isQuiet_X7_keep
set_option maxRecDepth 20000 in
theorem ggX7_isQuiet_X7_breathe : GoodIn wsX7_isQuiet wsX7_breathe := goodIn_r _ [16, 17, 18, 19, 6, 20, 12, 21, 22, 23, 24, 25, 10, 26, 27, 28, 29, 30, 31, 32, 33, 8, 34, 35, 36, 37, 38, 39, 40, 41, 42, 47, 48, 49, 50, 51, 52, 53, 54, 55, 56, 57, 58, 59, 60, 61, 62, 63, 64, 65, 66, 67, 68, 69, 70, 71, 72, 73, 74, 75] (by decide +kernel) (by decide +kernel)
set_option maxRecDepth 20000 in
theorem gX7_isQuiet_X7_breathe : GoodIn wsX7_isQuiet (wsV RX7 157 RX7 yX7_breathe wsX7_breathe) := goodIn_app (goodIn_of _ (by decide +kernel)) ggX7_isQuiet_X7_breathe
set_option maxRecDepth 20000 in
theorem ggX7_isQuiet_X7_putBack : GoodIn wsX7_isQuiet wsX7_putBack := goodIn_r _ [46, 9, 8, 10, 12, 11, 47, 48, 49, 50, 51, 52, 53, 54, 55, 56, 57, 58, 59, 60, 61, 62, 63, 64, 65, 66, 67, 68, 69, 70, 71, 72, 73, 74, 75] (by decide +kernel) (by decide +kernel)
set_option maxRecDepth 20000 in
theorem gX7_isQuiet_X7_putBack : GoodIn wsX7_isQuiet (wsV RX7 188 RX7 yX7_putBack wsX7_putBack) := goodIn_app (goodIn_of _ (by decide +kernel)) ggX7_isQuiet_X7_putBack
theorem dX7_isQuiet_0 : decode cX7_isQuiet 0 = .ok (.aload_n 0, 1) := by decide +kernel
theorem dX7_isQuiet_1 : decode cX7_isQuiet 1 = .ok (.invokevirtual 179, 3) := by decide +kernel
theorem dX7_isQuiet_4 : decode cX7_isQuiet 4 = .ok (.iconst 1, 1) := by decide +kernel
theorem dX7_isQuiet_5 : decode cX7_isQuiet 5 = .ok (.istore_n 3, 1) := by decide +kernel
theorem dX7_isQuiet_6 : decode cX7_isQuiet 6 = .ok (.iconst 0, 1) := by decide +kernel
theorem dX7_isQuiet_7 : decode cX7_isQuiet 7 = .ok (.istore 4, 2) := by decide +kernel
theorem dX7_isQuiet_9 : decode cX7_isQuiet 9 = .ok (.iload 4, 2) := by decide +kernel
theorem dX7_isQuiet_11 : decode cX7_isQuiet 11 = .ok (.iload_n 2, 1) := by decide +kernel
theorem dX7_isQuiet_12 : decode cX7_isQuiet 12 = .ok (.if_icmp .ge 60, 3) := by decide +kernel
theorem dX7_isQuiet_15 : decode cX7_isQuiet 15 = .ok (.iload_n 3, 1) := by decide +kernel
theorem dX7_isQuiet_16 : decode cX7_isQuiet 16 = .ok (.ifCond .eq 56, 3) := by decide +kernel
theorem dX7_isQuiet_19 : decode cX7_isQuiet 19 = .ok (.aload_n 0, 1) := by decide +kernel
theorem dX7_isQuiet_20 : decode cX7_isQuiet 20 = .ok (.aload_n 0, 1) := by decide +kernel
theorem dX7_isQuiet_21 : decode cX7_isQuiet 21 = .ok (.getfield 16, 3) := by decide +kernel
theorem dX7_isQuiet_24 : decode cX7_isQuiet 24 = .ok (.iload_n 1, 1) := by decide +kernel
theorem dX7_isQuiet_25 : decode cX7_isQuiet 25 = .ok (.iconst 2, 1) := by decide +kernel
theorem dX7_isQuiet_26 : decode cX7_isQuiet 26 = .ok (.aload_n 0, 1) := by decide +kernel
theorem dX7_isQuiet_27 : decode cX7_isQuiet 27 = .ok (.getfield 40, 3) := by decide +kernel
theorem dX7_isQuiet_30 : decode cX7_isQuiet 30 = .ok (.iload 4, 2) := by decide +kernel
theorem dX7_isQuiet_32 : decode cX7_isQuiet 32 = .ok (.iaload, 1) := by decide +kernel
theorem dX7_isQuiet_33 : decode cX7_isQuiet 33 = .ok (.imul, 1) := by decide +kernel
theorem dX7_isQuiet_34 : decode cX7_isQuiet 34 = .ok (.iadd, 1) := by decide +kernel
theorem dX7_isQuiet_35 : decode cX7_isQuiet 35 = .ok (.iaload, 1) := by decide +kernel
theorem dX7_isQuiet_36 : decode cX7_isQuiet 36 = .ok (.aload_n 0, 1) := by decide +kernel
theorem dX7_isQuiet_37 : decode cX7_isQuiet 37 = .ok (.getfield 16, 3) := by decide +kernel
theorem dX7_isQuiet_40 : decode cX7_isQuiet 40 = .ok (.iload_n 1, 1) := by decide +kernel
theorem dX7_isQuiet_41 : decode cX7_isQuiet 41 = .ok (.iconst 2, 1) := by decide +kernel
theorem dX7_isQuiet_42 : decode cX7_isQuiet 42 = .ok (.aload_n 0, 1) := by decide +kernel
theorem dX7_isQuiet_43 : decode cX7_isQuiet 43 = .ok (.getfield 40, 3) := by decide +kernel
theorem dX7_isQuiet_46 : decode cX7_isQuiet 46 = .ok (.iload 4, 2) := by decide +kernel
theorem dX7_isQuiet_48 : decode cX7_isQuiet 48 = .ok (.iaload, 1) := by decide +kernel
theorem dX7_isQuiet_49 : decode cX7_isQuiet 49 = .ok (.imul, 1) := by decide +kernel
theorem dX7_isQuiet_50 : decode cX7_isQuiet 50 = .ok (.iadd, 1) := by decide +kernel
theorem dX7_isQuiet_51 : decode cX7_isQuiet 51 = .ok (.iconst 1, 1) := by decide +kernel
theorem dX7_isQuiet_52 : decode cX7_isQuiet 52 = .ok (.iadd, 1) := by decide +kernel
theorem dX7_isQuiet_53 : decode cX7_isQuiet 53 = .ok (.iaload, 1) := by decide +kernel
theorem dX7_isQuiet_54 : decode cX7_isQuiet 54 = .ok (.invokevirtual 157, 3) := by decide +kernel
theorem dX7_isQuiet_57 : decode cX7_isQuiet 57 = .ok (.ifCond .ne 7, 3) := by decide +kernel
theorem dX7_isQuiet_60 : decode cX7_isQuiet 60 = .ok (.iconst 1, 1) := by decide +kernel
theorem dX7_isQuiet_61 : decode cX7_isQuiet 61 = .ok (.goto 4, 3) := by decide +kernel
theorem dX7_isQuiet_64 : decode cX7_isQuiet 64 = .ok (.iconst 0, 1) := by decide +kernel
theorem dX7_isQuiet_65 : decode cX7_isQuiet 65 = .ok (.istore_n 3, 1) := by decide +kernel
theorem dX7_isQuiet_66 : decode cX7_isQuiet 66 = .ok (.iinc 4 1, 3) := by decide +kernel
theorem dX7_isQuiet_69 : decode cX7_isQuiet 69 = .ok (.goto (-60), 3) := by decide +kernel
theorem dX7_isQuiet_72 : decode cX7_isQuiet 72 = .ok (.aload_n 0, 1) := by decide +kernel
theorem dX7_isQuiet_73 : decode cX7_isQuiet 73 = .ok (.invokevirtual 188, 3) := by decide +kernel
theorem dX7_isQuiet_76 : decode cX7_isQuiet 76 = .ok (.iload_n 3, 1) := by decide +kernel
theorem dX7_isQuiet_77 : decode cX7_isQuiet 77 = .ok (.ireturn, 1) := by decide +kernel
set_option maxRecDepth 20000 in
theorem ggX7_order_X7_within : GoodIn wsX7_order wsX7_within := goodIn_r _ [6] (by decide +kernel) (by decide +kernel)
set_option maxRecDepth 20000 in
theorem gX7_order_X7_within : GoodIn wsX7_order (va_wsS RX7 61 yX7_within wsX7_within) := goodIn_app (goodIn_of _ (by decide +kernel)) ggX7_order_X7_within
set_option maxRecDepth 20000 in
theorem ggX7_order_X7_refuses : GoodIn wsX7_order wsX7_refuses := goodIn_r _ [10, 11, 12, 13, 5, 14, 3, 4, 6, 15, 16, 17, 18, 19, 20, 21, 22, 23, 24, 25, 26, 27, 1, 28, 29, 30, 31, 32, 33, 34, 35, 36, 37, 38, 39, 40, 41, 95, 96, 97, 98, 99, 100, 101, 102, 103, 104, 105, 106, 107, 108, 109, 110, 111, 112, 113, 114, 115, 116, 117, 118, 119, 120, 121, 122, 123] (by decide +kernel) (by decide +kernel)
set_option maxRecDepth 20000 in
theorem gX7_order_X7_refuses : GoodIn wsX7_order (wsV RX7 175 RX7 yX7_refuses wsX7_refuses) := goodIn_app (goodIn_of _ (by decide +kernel)) ggX7_order_X7_refuses
set_option maxRecDepth 20000 in
theorem ggX7_order_X7_ordersOf : GoodIn wsX7_order wsX7_ordersOf := goodIn_r _ [44] (by decide +kernel) (by decide +kernel)
set_option maxRecDepth 20000 in
theorem gX7_order_X7_ordersOf : GoodIn wsX7_order (va_wsS RX7 191 yX7_ordersOf wsX7_ordersOf) := goodIn_app (goodIn_of _ (by decide +kernel)) ggX7_order_X7_ordersOf
set_option maxRecDepth 20000 in
theorem ggX7_order_X7_orderOf : GoodIn wsX7_order wsX7_orderOf := goodIn_r _ [48, 2, 49, 50, 5, 51, 95, 96, 97, 98, 99, 100, 101, 102, 103, 104, 105, 106, 107, 108, 109, 110, 111, 112, 113, 114, 115, 116, 117, 118, 119, 120, 121, 122, 123] (by decide +kernel) (by decide +kernel)
set_option maxRecDepth 20000 in
theorem gX7_order_X7_orderOf : GoodIn wsX7_order (wsV RX7 194 RX7 yX7_orderOf wsX7_orderOf) := goodIn_app (goodIn_of _ (by decide +kernel)) ggX7_order_X7_orderOf
set_option maxRecDepth 20000 in
theorem ggX7_order_X7_isQuiet : GoodIn wsX7_order wsX7_isQuiet := goodIn_r _ [55, 32, 2, 56, 57, 58, 5, 59, 60, 61, 11, 62, 63, 64, 65, 66, 67, 68, 69, 70, 71, 72, 73, 74, 75, 76, 77, 49, 50, 51, 78, 79, 80, 81, 82, 83, 84, 85, 86, 87, 88, 89, 90, 91, 92, 93, 94, 95, 96, 97, 98, 99, 100, 101, 102, 103, 104, 105, 106, 107, 108, 109, 110, 111, 112, 113, 114, 115, 116, 117, 118, 119, 120, 121, 122, 123] (by decide +kernel) (by decide +kernel)
set_option maxRecDepth 20000 in
theorem gX7_order_X7_isQuiet : GoodIn wsX7_order (wsV RX7 197 RX7 yX7_isQuiet wsX7_isQuiet) := goodIn_app (goodIn_of _ (by decide +kernel)) ggX7_order_X7_isQuiet
theorem dX7_order_0 : decode cX7_order 0 = .ok (.aload_n 0, 1) := by decide +kernel
theorem dX7_order_1 : decode cX7_order 1 = .ok (.iconst 0, 1) := by decide +kernel
theorem dX7_order_2 : decode cX7_order 2 = .ok (.putfield 55, 3) := by decide +kernel
theorem dX7_order_5 : decode cX7_order 5 = .ok (.aload_n 0, 1) := by decide +kernel
theorem dX7_order_6 : decode cX7_order 6 = .ok (.iload_n 1, 1) := by decide +kernel
theorem dX7_order_7 : decode cX7_order 7 = .ok (.iload_n 2, 1) := by decide +kernel
theorem dX7_order_8 : decode cX7_order 8 = .ok (.iload_n 3, 1) := by decide +kernel
theorem dX7_order_9 : decode cX7_order 9 = .ok (.iload 4, 2) := by decide +kernel
theorem dX7_order_11 : decode cX7_order 11 = .ok (.bipush 6, 2) := by decide +kernel
theorem dX7_order_13 : decode cX7_order 13 = .ok (.iload 5, 2) := by decide +kernel
theorem dX7_order_15 : decode cX7_order 15 = .ok (.iconst 0, 1) := by decide +kernel
theorem dX7_order_16 : decode cX7_order 16 = .ok (.iconst 5, 1) := by decide +kernel
theorem dX7_order_17 : decode cX7_order 17 = .ok (.invokestatic 61, 3) := by decide +kernel
theorem dX7_order_20 : decode cX7_order 20 = .ok (.invokevirtual 175, 3) := by decide +kernel
theorem dX7_order_23 : decode cX7_order 23 = .ok (.istore 6, 2) := by decide +kernel
theorem dX7_order_25 : decode cX7_order 25 = .ok (.iload 6, 2) := by decide +kernel
theorem dX7_order_27 : decode cX7_order 27 = .ok (.ifCond .eq 6, 3) := by decide +kernel
theorem dX7_order_30 : decode cX7_order 30 = .ok (.iload 6, 2) := by decide +kernel
theorem dX7_order_32 : decode cX7_order 32 = .ok (.ireturn, 1) := by decide +kernel
theorem dX7_order_33 : decode cX7_order 33 = .ok (.iload 5, 2) := by decide +kernel
theorem dX7_order_35 : decode cX7_order 35 = .ok (.iload 4, 2) := by decide +kernel
theorem dX7_order_37 : decode cX7_order 37 = .ok (.if_icmp .lt 6, 3) := by decide +kernel
theorem dX7_order_40 : decode cX7_order 40 = .ok (.bipush (-9), 2) := by decide +kernel
theorem dX7_order_42 : decode cX7_order 42 = .ok (.ireturn, 1) := by decide +kernel
theorem dX7_order_43 : decode cX7_order 43 = .ok (.iconst 0, 1) := by decide +kernel
theorem dX7_order_44 : decode cX7_order 44 = .ok (.istore 7, 2) := by decide +kernel
theorem dX7_order_46 : decode cX7_order 46 = .ok (.iload 7, 2) := by decide +kernel
theorem dX7_order_48 : decode cX7_order 48 = .ok (.iload 4, 2) := by decide +kernel
theorem dX7_order_50 : decode cX7_order 50 = .ok (.invokestatic 191, 3) := by decide +kernel
theorem dX7_order_53 : decode cX7_order 53 = .ok (.if_icmp .ge 40, 3) := by decide +kernel
theorem dX7_order_56 : decode cX7_order 56 = .ok (.aload_n 0, 1) := by decide +kernel
theorem dX7_order_57 : decode cX7_order 57 = .ok (.iload 7, 2) := by decide +kernel
theorem dX7_order_59 : decode cX7_order 59 = .ok (.iload 4, 2) := by decide +kernel
theorem dX7_order_61 : decode cX7_order 61 = .ok (.invokevirtual 194, 3) := by decide +kernel
theorem dX7_order_64 : decode cX7_order 64 = .ok (.aload_n 0, 1) := by decide +kernel
theorem dX7_order_65 : decode cX7_order 65 = .ok (.bipush 60, 2) := by decide +kernel
theorem dX7_order_67 : decode cX7_order 67 = .ok (.iload_n 1, 1) := by decide +kernel
theorem dX7_order_68 : decode cX7_order 68 = .ok (.imul, 1) := by decide +kernel
theorem dX7_order_69 : decode cX7_order 69 = .ok (.iload_n 3, 1) := by decide +kernel
theorem dX7_order_70 : decode cX7_order 70 = .ok (.iadd, 1) := by decide +kernel
theorem dX7_order_71 : decode cX7_order 71 = .ok (.iload 4, 2) := by decide +kernel
theorem dX7_order_73 : decode cX7_order 73 = .ok (.invokevirtual 197, 3) := by decide +kernel
theorem dX7_order_76 : decode cX7_order 76 = .ok (.ifCond .eq 11, 3) := by decide +kernel
theorem dX7_order_79 : decode cX7_order 79 = .ok (.aload_n 0, 1) := by decide +kernel
theorem dX7_order_80 : decode cX7_order 80 = .ok (.getfield 40, 3) := by decide +kernel
theorem dX7_order_83 : decode cX7_order 83 = .ok (.iload 5, 2) := by decide +kernel
theorem dX7_order_85 : decode cX7_order 85 = .ok (.iaload, 1) := by decide +kernel
theorem dX7_order_86 : decode cX7_order 86 = .ok (.ireturn, 1) := by decide +kernel
theorem dX7_order_87 : decode cX7_order 87 = .ok (.iinc 7 1, 3) := by decide +kernel
theorem dX7_order_90 : decode cX7_order 90 = .ok (.goto (-44), 3) := by decide +kernel
theorem dX7_order_93 : decode cX7_order 93 = .ok (.bipush (-9), 2) := by decide +kernel
theorem dX7_order_95 : decode cX7_order 95 = .ok (.ireturn, 1) := by decide +kernel
set_option maxRecDepth 20000 in
theorem ggX7_shut_X7_within : GoodIn wsX7_shut wsX7_within := goodIn_r _ [8] (by decide +kernel) (by decide +kernel)
set_option maxRecDepth 20000 in
theorem gX7_shut_X7_within : GoodIn wsX7_shut (va_wsS RX7 61 yX7_within wsX7_within) := goodIn_app (goodIn_of _ (by decide +kernel)) ggX7_shut_X7_within
set_option maxRecDepth 20000 in
theorem ggX7_shut_X7_refuses : GoodIn wsX7_shut wsX7_refuses := goodIn_r _ [12, 3, 13, 14, 7, 15, 5, 6, 8, 16, 17, 18, 19, 20, 21, 22, 23, 24, 25, 26, 27, 28, 1, 29, 30, 31, 32, 33, 34, 35, 36, 37, 38, 39, 40, 41, 42, 92, 93, 94, 95, 96, 97, 98, 99, 100, 101, 102, 103, 104, 105, 106, 107, 108, 109, 110, 111, 112, 113, 114, 115, 116, 117, 118, 119, 120] (by decide +kernel) (by decide +kernel)
set_option maxRecDepth 20000 in
theorem gX7_shut_X7_refuses : GoodIn wsX7_shut (wsV RX7 175 RX7 yX7_refuses wsX7_refuses) := goodIn_app (goodIn_of _ (by decide +kernel)) ggX7_shut_X7_refuses
set_option maxRecDepth 20000 in
theorem ggX7_shut_X7_keep : GoodIn wsX7_shut wsX7_keep := goodIn_r _ [46, 47, 48, 3, 49, 50, 92, 93, 94, 95, 96, 97, 98, 99, 100, 101, 102, 103, 104, 105, 106, 107, 108, 109, 110, 111, 112, 113, 114, 115, 116, 117, 118, 119, 120] (by decide +kernel) (by decide +kernel)
set_option maxRecDepth 20000 in
theorem gX7_shut_X7_keep : GoodIn wsX7_shut (wsV RX7 179 RX7 yX7_keep wsX7_keep) := goodIn_app (goodIn_of _ (by decide +kernel)) ggX7_shut_X7_keep
set_option maxRecDepth 20000 in
theorem ggX7_shut_X7_goShift : GoodIn wsX7_shut wsX7_goShift := goodIn_r _ [54, 4, 55, 33, 56, 57, 58, 7, 59, 60, 61, 62, 63, 50, 64, 65, 66, 67, 68, 3, 2, 69, 70, 71, 72, 73, 74, 75, 47, 76, 77, 78, 79, 80, 81, 82, 83, 84, 85, 86, 87, 92, 93, 94, 95, 96, 97, 98, 99, 100, 101, 102, 103, 104, 105, 106, 107, 108, 109, 110, 111, 112, 113, 114, 115, 116, 117, 118, 119, 120] (by decide +kernel) (by decide +kernel)
set_option maxRecDepth 20000 in
theorem gX7_shut_X7_goShift : GoodIn wsX7_shut (wsV RX7 182 RX7 yX7_goShift wsX7_goShift) := goodIn_app (goodIn_of _ (by decide +kernel)) ggX7_shut_X7_goShift
set_option maxRecDepth 20000 in
theorem ggX7_shut_X7_putBack : GoodIn wsX7_shut wsX7_putBack := goodIn_r _ [91, 48, 47, 3, 50, 49, 92, 93, 94, 95, 96, 97, 98, 99, 100, 101, 102, 103, 104, 105, 106, 107, 108, 109, 110, 111, 112, 113, 114, 115, 116, 117, 118, 119, 120] (by decide +kernel) (by decide +kernel)
set_option maxRecDepth 20000 in
theorem gX7_shut_X7_putBack : GoodIn wsX7_shut (wsV RX7 188 RX7 yX7_putBack wsX7_putBack) := goodIn_app (goodIn_of _ (by decide +kernel)) ggX7_shut_X7_putBack
set_option maxRecDepth 20000 in
theorem ggX7_shut_X7_size : GoodIn wsX7_shut wsX7_size := goodIn_r _ [87] (by decide +kernel) (by decide +kernel)
set_option maxRecDepth 20000 in
theorem gX7_shut_X7_size : GoodIn wsX7_shut (va_wsS RX7 160 yX7_size wsX7_size) := goodIn_app (goodIn_of _ (by decide +kernel)) ggX7_shut_X7_size
theorem dX7_shut_0 : decode cX7_shut 0 = .ok (.aload_n 0, 1) := by decide +kernel
theorem dX7_shut_1 : decode cX7_shut 1 = .ok (.iconst 0, 1) := by decide +kernel
theorem dX7_shut_2 : decode cX7_shut 2 = .ok (.putfield 55, 3) := by decide +kernel
theorem dX7_shut_5 : decode cX7_shut 5 = .ok (.aload_n 0, 1) := by decide +kernel
theorem dX7_shut_6 : decode cX7_shut 6 = .ok (.iload_n 1, 1) := by decide +kernel
theorem dX7_shut_7 : decode cX7_shut 7 = .ok (.iload_n 2, 1) := by decide +kernel
theorem dX7_shut_8 : decode cX7_shut 8 = .ok (.iload_n 3, 1) := by decide +kernel
theorem dX7_shut_9 : decode cX7_shut 9 = .ok (.iload 4, 2) := by decide +kernel
theorem dX7_shut_11 : decode cX7_shut 11 = .ok (.bipush 20, 2) := by decide +kernel
theorem dX7_shut_13 : decode cX7_shut 13 = .ok (.iload 5, 2) := by decide +kernel
theorem dX7_shut_15 : decode cX7_shut 15 = .ok (.iconst 0, 1) := by decide +kernel
theorem dX7_shut_16 : decode cX7_shut 16 = .ok (.iconst 1, 1) := by decide +kernel
theorem dX7_shut_17 : decode cX7_shut 17 = .ok (.invokestatic 61, 3) := by decide +kernel
theorem dX7_shut_20 : decode cX7_shut 20 = .ok (.invokevirtual 175, 3) := by decide +kernel
theorem dX7_shut_23 : decode cX7_shut 23 = .ok (.istore 6, 2) := by decide +kernel
theorem dX7_shut_25 : decode cX7_shut 25 = .ok (.iload 6, 2) := by decide +kernel
theorem dX7_shut_27 : decode cX7_shut 27 = .ok (.ifCond .eq 6, 3) := by decide +kernel
theorem dX7_shut_30 : decode cX7_shut 30 = .ok (.iload 6, 2) := by decide +kernel
theorem dX7_shut_32 : decode cX7_shut 32 = .ok (.ireturn, 1) := by decide +kernel
theorem dX7_shut_33 : decode cX7_shut 33 = .ok (.aload_n 0, 1) := by decide +kernel
theorem dX7_shut_34 : decode cX7_shut 34 = .ok (.getfield 101, 3) := by decide +kernel
theorem dX7_shut_37 : decode cX7_shut 37 = .ok (.istore 7, 2) := by decide +kernel
theorem dX7_shut_39 : decode cX7_shut 39 = .ok (.iconst 0, 1) := by decide +kernel
theorem dX7_shut_40 : decode cX7_shut 40 = .ok (.istore 8, 2) := by decide +kernel
theorem dX7_shut_42 : decode cX7_shut 42 = .ok (.bipush (-9), 2) := by decide +kernel
theorem dX7_shut_44 : decode cX7_shut 44 = .ok (.istore 9, 2) := by decide +kernel
theorem dX7_shut_46 : decode cX7_shut 46 = .ok (.iconst 0, 1) := by decide +kernel
theorem dX7_shut_47 : decode cX7_shut 47 = .ok (.istore 10, 2) := by decide +kernel
theorem dX7_shut_49 : decode cX7_shut 49 = .ok (.iload 10, 2) := by decide +kernel
end
section
theorem dX7_shut_51 : decode cX7_shut 51 = .ok (.iconst 1, 1) := by decide +kernel
theorem dX7_shut_52 : decode cX7_shut 52 = .ok (.aload_n 0, 1) := by decide +kernel
theorem dX7_shut_53 : decode cX7_shut 53 = .ok (.getfield 65, 3) := by decide +kernel
theorem dX7_shut_56 : decode cX7_shut 56 = .ok (.iconst 1, 1) := by decide +kernel
theorem dX7_shut_57 : decode cX7_shut 57 = .ok (.isub, 1) := by decide +kernel
theorem dX7_shut_58 : decode cX7_shut 58 = .ok (.ishl, 1) := by decide +kernel
theorem dX7_shut_59 : decode cX7_shut 59 = .ok (.if_icmp .ge 83, 3) := by decide +kernel
theorem dX7_shut_62 : decode cX7_shut 62 = .ok (.aload_n 0, 1) := by decide +kernel
theorem dX7_shut_63 : decode cX7_shut 63 = .ok (.iload 10, 2) := by decide +kernel
theorem dX7_shut_65 : decode cX7_shut 65 = .ok (.putfield 101, 3) := by decide +kernel
theorem dX7_shut_68 : decode cX7_shut 68 = .ok (.aload_n 0, 1) := by decide +kernel
theorem dX7_shut_69 : decode cX7_shut 69 = .ok (.invokevirtual 179, 3) := by decide +kernel
theorem dX7_shut_72 : decode cX7_shut 72 = .ok (.aload_n 0, 1) := by decide +kernel
theorem dX7_shut_73 : decode cX7_shut 73 = .ok (.bipush 60, 2) := by decide +kernel
theorem dX7_shut_75 : decode cX7_shut 75 = .ok (.iload_n 1, 1) := by decide +kernel
theorem dX7_shut_76 : decode cX7_shut 76 = .ok (.imul, 1) := by decide +kernel
theorem dX7_shut_77 : decode cX7_shut 77 = .ok (.iload_n 3, 1) := by decide +kernel
theorem dX7_shut_78 : decode cX7_shut 78 = .ok (.iadd, 1) := by decide +kernel
theorem dX7_shut_79 : decode cX7_shut 79 = .ok (.iload 4, 2) := by decide +kernel
theorem dX7_shut_81 : decode cX7_shut 81 = .ok (.invokevirtual 182, 3) := by decide +kernel
theorem dX7_shut_84 : decode cX7_shut 84 = .ok (.aload_n 0, 1) := by decide +kernel
theorem dX7_shut_85 : decode cX7_shut 85 = .ok (.invokevirtual 188, 3) := by decide +kernel
theorem dX7_shut_88 : decode cX7_shut 88 = .ok (.iload 9, 2) := by decide +kernel
theorem dX7_shut_90 : decode cX7_shut 90 = .ok (.bipush (-9), 2) := by decide +kernel
theorem dX7_shut_92 : decode cX7_shut 92 = .ok (.if_icmp .eq 34, 3) := by decide +kernel
theorem dX7_shut_95 : decode cX7_shut 95 = .ok (.aload_n 0, 1) := by decide +kernel
theorem dX7_shut_96 : decode cX7_shut 96 = .ok (.getfield 166, 3) := by decide +kernel
theorem dX7_shut_99 : decode cX7_shut 99 = .ok (.iload 9, 2) := by decide +kernel
theorem dX7_shut_101 : decode cX7_shut 101 = .ok (.if_icmp .lt 25, 3) := by decide +kernel
theorem dX7_shut_104 : decode cX7_shut 104 = .ok (.aload_n 0, 1) := by decide +kernel
theorem dX7_shut_105 : decode cX7_shut 105 = .ok (.getfield 166, 3) := by decide +kernel
theorem dX7_shut_108 : decode cX7_shut 108 = .ok (.iload 9, 2) := by decide +kernel
theorem dX7_shut_110 : decode cX7_shut 110 = .ok (.if_icmp .ne 26, 3) := by decide +kernel
theorem dX7_shut_113 : decode cX7_shut 113 = .ok (.iload 10, 2) := by decide +kernel
theorem dX7_shut_115 : decode cX7_shut 115 = .ok (.invokestatic 160, 3) := by decide +kernel
theorem dX7_shut_118 : decode cX7_shut 118 = .ok (.iload 8, 2) := by decide +kernel
theorem dX7_shut_120 : decode cX7_shut 120 = .ok (.invokestatic 160, 3) := by decide +kernel
theorem dX7_shut_123 : decode cX7_shut 123 = .ok (.if_icmp .ge 13, 3) := by decide +kernel
theorem dX7_shut_126 : decode cX7_shut 126 = .ok (.iload 10, 2) := by decide +kernel
theorem dX7_shut_128 : decode cX7_shut 128 = .ok (.istore 8, 2) := by decide +kernel
theorem dX7_shut_130 : decode cX7_shut 130 = .ok (.aload_n 0, 1) := by decide +kernel
theorem dX7_shut_131 : decode cX7_shut 131 = .ok (.getfield 166, 3) := by decide +kernel
theorem dX7_shut_134 : decode cX7_shut 134 = .ok (.istore 9, 2) := by decide +kernel
theorem dX7_shut_136 : decode cX7_shut 136 = .ok (.iinc 10 1, 3) := by decide +kernel
theorem dX7_shut_139 : decode cX7_shut 139 = .ok (.goto (-90), 3) := by decide +kernel
theorem dX7_shut_142 : decode cX7_shut 142 = .ok (.aload_n 0, 1) := by decide +kernel
theorem dX7_shut_143 : decode cX7_shut 143 = .ok (.iload 7, 2) := by decide +kernel
theorem dX7_shut_145 : decode cX7_shut 145 = .ok (.putfield 101, 3) := by decide +kernel
theorem dX7_shut_148 : decode cX7_shut 148 = .ok (.iload 5, 2) := by decide +kernel
theorem dX7_shut_150 : decode cX7_shut 150 = .ok (.ifCond .ne 8, 3) := by decide +kernel
theorem dX7_shut_153 : decode cX7_shut 153 = .ok (.iload 8, 2) := by decide +kernel
theorem dX7_shut_155 : decode cX7_shut 155 = .ok (.goto 5, 3) := by decide +kernel
theorem dX7_shut_158 : decode cX7_shut 158 = .ok (.iload 9, 2) := by decide +kernel
theorem dX7_shut_160 : decode cX7_shut 160 = .ok (.ireturn, 1) := by decide +kernel
set_option maxRecDepth 20000 in
theorem ggX7_rests_X7_keep : GoodIn wsX7_rests wsX7_keep := goodIn_r _ [6, 7, 8, 1, 9, 10, 23, 24, 25, 26, 27, 28, 29, 30, 31, 32, 33, 34, 35, 36, 37, 38, 39, 40, 41, 42, 43, 44, 45, 46, 47, 48, 49, 50, 51] (by decide +kernel) (by decide +kernel)
set_option maxRecDepth 20000 in
theorem gX7_rests_X7_keep : GoodIn wsX7_rests (wsV RX7 179 RX7 yX7_keep wsX7_keep) := goodIn_app (goodIn_of _ (by decide +kernel)) ggX7_rests_X7_keep
set_option maxRecDepth 20000 in
theorem ggX7_rests_X7_pass : GoodIn wsX7_rests wsX7_pass := goodIn_r _ [14, 1, 10, 15, 16, 17, 5, 18, 23, 24, 25, 26, 27, 28, 29, 30, 31, 32, 33, 34, 35, 36, 37, 38, 39, 40, 41, 42, 43, 44, 45, 46, 47, 48, 49, 50, 51] (by decide +kernel) (by decide +kernel)
set_option maxRecDepth 20000 in
theorem gX7_rests_X7_pass : GoodIn wsX7_rests (wsV RX7 150 RX7 yX7_pass wsX7_pass) := goodIn_app (goodIn_of _ (by decide +kernel)) ggX7_rests_X7_pass
set_option maxRecDepth 20000 in
theorem ggX7_rests_X7_putBack : GoodIn wsX7_rests wsX7_putBack := goodIn_r _ [22, 8, 7, 1, 10, 9, 23, 24, 25, 26, 27, 28, 29, 30, 31, 32, 33, 34, 35, 36, 37, 38, 39, 40, 41, 42, 43, 44, 45, 46, 47, 48, 49, 50, 51] (by decide +kernel) (by decide +kernel)
set_option maxRecDepth 20000 in
theorem gX7_rests_X7_putBack : GoodIn wsX7_rests (wsV RX7 188 RX7 yX7_putBack wsX7_putBack) := goodIn_app (goodIn_of _ (by decide +kernel)) ggX7_rests_X7_putBack
theorem dX7_rests_0 : decode cX7_rests 0 = .ok (.aload_n 0, 1) := by decide +kernel
theorem dX7_rests_1 : decode cX7_rests 1 = .ok (.getfield 65, 3) := by decide +kernel
theorem dX7_rests_4 : decode cX7_rests 4 = .ok (.ifCond .ne 6, 3) := by decide +kernel
theorem dX7_rests_7 : decode cX7_rests 7 = .ok (.bipush (-3), 2) := by decide +kernel
theorem dX7_rests_9 : decode cX7_rests 9 = .ok (.ireturn, 1) := by decide +kernel
theorem dX7_rests_10 : decode cX7_rests 10 = .ok (.aload_n 0, 1) := by decide +kernel
theorem dX7_rests_11 : decode cX7_rests 11 = .ok (.invokevirtual 179, 3) := by decide +kernel
theorem dX7_rests_14 : decode cX7_rests 14 = .ok (.iconst 0, 1) := by decide +kernel
theorem dX7_rests_15 : decode cX7_rests 15 = .ok (.istore_n 1, 1) := by decide +kernel
theorem dX7_rests_16 : decode cX7_rests 16 = .ok (.iload_n 1, 1) := by decide +kernel
theorem dX7_rests_17 : decode cX7_rests 17 = .ok (.bipush 60, 2) := by decide +kernel
theorem dX7_rests_19 : decode cX7_rests 19 = .ok (.if_icmp .gt 16, 3) := by decide +kernel
theorem dX7_rests_22 : decode cX7_rests 22 = .ok (.aload_n 0, 1) := by decide +kernel
theorem dX7_rests_23 : decode cX7_rests 23 = .ok (.invokevirtual 150, 3) := by decide +kernel
theorem dX7_rests_26 : decode cX7_rests 26 = .ok (.ifCond .le 9, 3) := by decide +kernel
theorem dX7_rests_29 : decode cX7_rests 29 = .ok (.iinc 1 1, 3) := by decide +kernel
theorem dX7_rests_32 : decode cX7_rests 32 = .ok (.goto (-16), 3) := by decide +kernel
theorem dX7_rests_35 : decode cX7_rests 35 = .ok (.aload_n 0, 1) := by decide +kernel
theorem dX7_rests_36 : decode cX7_rests 36 = .ok (.invokevirtual 188, 3) := by decide +kernel
theorem dX7_rests_39 : decode cX7_rests 39 = .ok (.iload_n 1, 1) := by decide +kernel
theorem dX7_rests_40 : decode cX7_rests 40 = .ok (.bipush 60, 2) := by decide +kernel
theorem dX7_rests_42 : decode cX7_rests 42 = .ok (.if_icmp .gt 7, 3) := by decide +kernel
theorem dX7_rests_45 : decode cX7_rests 45 = .ok (.iload_n 1, 1) := by decide +kernel
theorem dX7_rests_46 : decode cX7_rests 46 = .ok (.goto 5, 3) := by decide +kernel
theorem dX7_rests_49 : decode cX7_rests 49 = .ok (.bipush (-9), 2) := by decide +kernel
theorem dX7_rests_51 : decode cX7_rests 51 = .ok (.ireturn, 1) := by decide +kernel
set_option maxRecDepth 20000 in
theorem ggX7_clears_X7_isGallery : GoodIn wsX7_clears wsX7_isGallery := goodIn_r _ [6, 7, 30, 31, 32, 33, 34, 35, 36, 37, 38, 39, 40, 41, 42, 43, 44, 45, 46, 47, 48, 49, 50, 51, 52, 53, 54, 55, 56, 57, 58] (by decide +kernel) (by decide +kernel)
set_option maxRecDepth 20000 in
theorem gX7_clears_X7_isGallery : GoodIn wsX7_clears (wsV RX7 131 RX7 yX7_isGallery wsX7_isGallery) := goodIn_app (goodIn_of _ (by decide +kernel)) ggX7_clears_X7_isGallery
set_option maxRecDepth 20000 in
theorem ggX7_clears_X7_within : GoodIn wsX7_clears wsX7_within := goodIn_r _ [10] (by decide +kernel) (by decide +kernel)
set_option maxRecDepth 20000 in
theorem gX7_clears_X7_within : GoodIn wsX7_clears (va_wsS RX7 61 yX7_within wsX7_within) := goodIn_app (goodIn_of _ (by decide +kernel)) ggX7_clears_X7_within
set_option maxRecDepth 20000 in
theorem ggX7_clears_X7_keep : GoodIn wsX7_clears wsX7_keep := goodIn_r _ [14, 15, 16, 7, 17, 1, 30, 31, 32, 33, 34, 35, 36, 37, 38, 39, 40, 41, 42, 43, 44, 45, 46, 47, 48, 49, 50, 51, 52, 53, 54, 55, 56, 57, 58] (by decide +kernel) (by decide +kernel)
set_option maxRecDepth 20000 in
theorem gX7_clears_X7_keep : GoodIn wsX7_clears (wsV RX7 179 RX7 yX7_keep wsX7_keep) := goodIn_app (goodIn_of _ (by decide +kernel)) ggX7_clears_X7_keep
set_option maxRecDepth 20000 in
theorem ggX7_clears_X7_pass : GoodIn wsX7_clears wsX7_pass := goodIn_r _ [21, 7, 1, 22, 23, 24, 5, 25, 30, 31, 32, 33, 34, 35, 36, 37, 38, 39, 40, 41, 42, 43, 44, 45, 46, 47, 48, 49, 50, 51, 52, 53, 54, 55, 56, 57, 58] (by decide +kernel) (by decide +kernel)
set_option maxRecDepth 20000 in
theorem gX7_clears_X7_pass : GoodIn wsX7_clears (wsV RX7 150 RX7 yX7_pass wsX7_pass) := goodIn_app (goodIn_of _ (by decide +kernel)) ggX7_clears_X7_pass
set_option maxRecDepth 20000 in
theorem ggX7_clears_X7_putBack : GoodIn wsX7_clears wsX7_putBack := goodIn_r _ [29, 16, 15, 7, 1, 17, 30, 31, 32, 33, 34, 35, 36, 37, 38, 39, 40, 41, 42, 43, 44, 45, 46, 47, 48, 49, 50, 51, 52, 53, 54, 55, 56, 57, 58] (by decide +kernel) (by decide +kernel)
set_option maxRecDepth 20000 in
theorem gX7_clears_X7_putBack : GoodIn wsX7_clears (wsV RX7 188 RX7 yX7_putBack wsX7_putBack) := goodIn_app (goodIn_of _ (by decide +kernel)) ggX7_clears_X7_putBack
theorem dX7_clears_0 : decode cX7_clears 0 = .ok (.aload_n 0, 1) := by decide +kernel
theorem dX7_clears_1 : decode cX7_clears 1 = .ok (.iload_n 1, 1) := by decide +kernel
theorem dX7_clears_2 : decode cX7_clears 2 = .ok (.invokevirtual 131, 3) := by decide +kernel
theorem dX7_clears_5 : decode cX7_clears 5 = .ok (.ifCond .ne 5, 3) := by decide +kernel
theorem dX7_clears_8 : decode cX7_clears 8 = .ok (.iconst (-1), 1) := by decide +kernel
theorem dX7_clears_9 : decode cX7_clears 9 = .ok (.ireturn, 1) := by decide +kernel
theorem dX7_clears_10 : decode cX7_clears 10 = .ok (.iload_n 2, 1) := by decide +kernel
theorem dX7_clears_11 : decode cX7_clears 11 = .ok (.iconst 0, 1) := by decide +kernel
theorem dX7_clears_12 : decode cX7_clears 12 = .ok (.bipush 40, 2) := by decide +kernel
theorem dX7_clears_14 : decode cX7_clears 14 = .ok (.invokestatic 61, 3) := by decide +kernel
theorem dX7_clears_17 : decode cX7_clears 17 = .ok (.ifCond .ne 6, 3) := by decide +kernel
theorem dX7_clears_20 : decode cX7_clears 20 = .ok (.bipush (-2), 2) := by decide +kernel
theorem dX7_clears_22 : decode cX7_clears 22 = .ok (.ireturn, 1) := by decide +kernel
theorem dX7_clears_23 : decode cX7_clears 23 = .ok (.aload_n 0, 1) := by decide +kernel
theorem dX7_clears_24 : decode cX7_clears 24 = .ok (.invokevirtual 179, 3) := by decide +kernel
theorem dX7_clears_27 : decode cX7_clears 27 = .ok (.iconst 0, 1) := by decide +kernel
theorem dX7_clears_28 : decode cX7_clears 28 = .ok (.istore_n 3, 1) := by decide +kernel
theorem dX7_clears_29 : decode cX7_clears 29 = .ok (.iload_n 3, 1) := by decide +kernel
theorem dX7_clears_30 : decode cX7_clears 30 = .ok (.bipush 60, 2) := by decide +kernel
theorem dX7_clears_32 : decode cX7_clears 32 = .ok (.if_icmp .gt 24, 3) := by decide +kernel
theorem dX7_clears_35 : decode cX7_clears 35 = .ok (.aload_n 0, 1) := by decide +kernel
theorem dX7_clears_36 : decode cX7_clears 36 = .ok (.getfield 25, 3) := by decide +kernel
theorem dX7_clears_39 : decode cX7_clears 39 = .ok (.iload_n 1, 1) := by decide +kernel
theorem dX7_clears_40 : decode cX7_clears 40 = .ok (.iaload, 1) := by decide +kernel
theorem dX7_clears_41 : decode cX7_clears 41 = .ok (.iload_n 2, 1) := by decide +kernel
theorem dX7_clears_42 : decode cX7_clears 42 = .ok (.if_icmp .le 14, 3) := by decide +kernel
theorem dX7_clears_45 : decode cX7_clears 45 = .ok (.aload_n 0, 1) := by decide +kernel
theorem dX7_clears_46 : decode cX7_clears 46 = .ok (.invokevirtual 150, 3) := by decide +kernel
theorem dX7_clears_49 : decode cX7_clears 49 = .ok (.pop, 1) := by decide +kernel
theorem dX7_clears_50 : decode cX7_clears 50 = .ok (.iinc 3 1, 3) := by decide +kernel
theorem dX7_clears_53 : decode cX7_clears 53 = .ok (.goto (-24), 3) := by decide +kernel
theorem dX7_clears_56 : decode cX7_clears 56 = .ok (.aload_n 0, 1) := by decide +kernel
theorem dX7_clears_57 : decode cX7_clears 57 = .ok (.invokevirtual 188, 3) := by decide +kernel
theorem dX7_clears_60 : decode cX7_clears 60 = .ok (.iload_n 3, 1) := by decide +kernel
theorem dX7_clears_61 : decode cX7_clears 61 = .ok (.bipush 60, 2) := by decide +kernel
theorem dX7_clears_63 : decode cX7_clears 63 = .ok (.if_icmp .gt 7, 3) := by decide +kernel
theorem dX7_clears_66 : decode cX7_clears 66 = .ok (.iload_n 3, 1) := by decide +kernel
theorem dX7_clears_67 : decode cX7_clears 67 = .ok (.goto 5, 3) := by decide +kernel
theorem dX7_clears_70 : decode cX7_clears 70 = .ok (.bipush (-9), 2) := by decide +kernel
theorem dX7_clears_72 : decode cX7_clears 72 = .ok (.ireturn, 1) := by decide +kernel
set_option maxRecDepth 20000 in
theorem ggX7_findPerches_X7_ordersOf : GoodIn wsX7_findPerches wsX7_ordersOf := goodIn_r _ [8] (by decide +kernel) (by decide +kernel)
set_option maxRecDepth 20000 in
theorem gX7_findPerches_X7_ordersOf : GoodIn wsX7_findPerches (va_wsS RX7 191 yX7_ordersOf wsX7_ordersOf) := goodIn_app (goodIn_of _ (by decide +kernel)) ggX7_findPerches_X7_ordersOf
set_option maxRecDepth 20000 in
theorem ggX7_findPerches_X7_orderOf : GoodIn wsX7_findPerches wsX7_orderOf := goodIn_r _ [12, 3, 13, 14, 7, 15, 25, 26, 27, 28, 29, 30, 31, 32, 33, 34, 35, 36, 37, 38, 39, 40, 41, 42, 43, 44, 45, 46, 47, 48, 49, 50, 51, 52, 53] (by decide +kernel) (by decide +kernel)
set_option maxRecDepth 20000 in
theorem gX7_findPerches_X7_orderOf : GoodIn wsX7_findPerches (wsV RX7 194 RX7 yX7_orderOf wsX7_orderOf) := goodIn_app (goodIn_of _ (by decide +kernel)) ggX7_findPerches_X7_orderOf
set_option maxRecDepth 20000 in
theorem ggX7_findPerches_X7_bearsOf : GoodIn wsX7_findPerches wsX7_bearsOf := goodIn_r _ [19, 20, 21, 22, 23, 7, 24, 25, 26, 27, 28, 29, 30, 31, 32, 33, 34, 35, 36, 37, 38, 39, 40, 41, 42, 43, 44, 45, 46, 47, 48, 49, 50, 51, 52, 53] (by decide +kernel) (by decide +kernel)
set_option maxRecDepth 20000 in
theorem gX7_findPerches_X7_bearsOf : GoodIn wsX7_findPerches (wsV RX7 134 RX7 yX7_bearsOf wsX7_bearsOf) := goodIn_app (goodIn_of _ (by decide +kernel)) ggX7_findPerches_X7_bearsOf
theorem dX7_findPerches_0 : decode cX7_findPerches 0 = .ok (.bipush (-9), 2) := by decide +kernel
theorem dX7_findPerches_2 : decode cX7_findPerches 2 = .ok (.istore_n 1, 1) := by decide +kernel
theorem dX7_findPerches_3 : decode cX7_findPerches 3 = .ok (.iconst 0, 1) := by decide +kernel
theorem dX7_findPerches_4 : decode cX7_findPerches 4 = .ok (.istore_n 2, 1) := by decide +kernel
theorem dX7_findPerches_5 : decode cX7_findPerches 5 = .ok (.iload_n 2, 1) := by decide +kernel
theorem dX7_findPerches_6 : decode cX7_findPerches 6 = .ok (.aload_n 0, 1) := by decide +kernel
theorem dX7_findPerches_7 : decode cX7_findPerches 7 = .ok (.getfield 65, 3) := by decide +kernel
theorem dX7_findPerches_10 : decode cX7_findPerches 10 = .ok (.invokestatic 191, 3) := by decide +kernel
theorem dX7_findPerches_13 : decode cX7_findPerches 13 = .ok (.if_icmp .ge 106, 3) := by decide +kernel
theorem dX7_findPerches_16 : decode cX7_findPerches 16 = .ok (.aload_n 0, 1) := by decide +kernel
theorem dX7_findPerches_17 : decode cX7_findPerches 17 = .ok (.iload_n 2, 1) := by decide +kernel
theorem dX7_findPerches_18 : decode cX7_findPerches 18 = .ok (.aload_n 0, 1) := by decide +kernel
theorem dX7_findPerches_19 : decode cX7_findPerches 19 = .ok (.getfield 65, 3) := by decide +kernel
theorem dX7_findPerches_22 : decode cX7_findPerches 22 = .ok (.invokevirtual 194, 3) := by decide +kernel
theorem dX7_findPerches_25 : decode cX7_findPerches 25 = .ok (.iconst 0, 1) := by decide +kernel
theorem dX7_findPerches_26 : decode cX7_findPerches 26 = .ok (.istore_n 3, 1) := by decide +kernel
theorem dX7_findPerches_27 : decode cX7_findPerches 27 = .ok (.iconst 0, 1) := by decide +kernel
theorem dX7_findPerches_28 : decode cX7_findPerches 28 = .ok (.istore 4, 2) := by decide +kernel
theorem dX7_findPerches_30 : decode cX7_findPerches 30 = .ok (.iload 4, 2) := by decide +kernel
theorem dX7_findPerches_32 : decode cX7_findPerches 32 = .ok (.aload_n 0, 1) := by decide +kernel
theorem dX7_findPerches_33 : decode cX7_findPerches 33 = .ok (.getfield 65, 3) := by decide +kernel
theorem dX7_findPerches_36 : decode cX7_findPerches 36 = .ok (.if_icmp .ge 38, 3) := by decide +kernel
theorem dX7_findPerches_39 : decode cX7_findPerches 39 = .ok (.iload_n 3, 1) := by decide +kernel
theorem dX7_findPerches_40 : decode cX7_findPerches 40 = .ok (.aload_n 0, 1) := by decide +kernel
theorem dX7_findPerches_41 : decode cX7_findPerches 41 = .ok (.getfield 25, 3) := by decide +kernel
theorem dX7_findPerches_44 : decode cX7_findPerches 44 = .ok (.iload 4, 2) := by decide +kernel
theorem dX7_findPerches_46 : decode cX7_findPerches 46 = .ok (.iaload, 1) := by decide +kernel
theorem dX7_findPerches_47 : decode cX7_findPerches 47 = .ok (.aload_n 0, 1) := by decide +kernel
theorem dX7_findPerches_48 : decode cX7_findPerches 48 = .ok (.aload_n 0, 1) := by decide +kernel
theorem dX7_findPerches_49 : decode cX7_findPerches 49 = .ok (.getfield 40, 3) := by decide +kernel
theorem dX7_findPerches_52 : decode cX7_findPerches 52 = .ok (.iload 4, 2) := by decide +kernel
theorem dX7_findPerches_54 : decode cX7_findPerches 54 = .ok (.iaload, 1) := by decide +kernel
theorem dX7_findPerches_55 : decode cX7_findPerches 55 = .ok (.invokevirtual 134, 3) := by decide +kernel
theorem dX7_findPerches_58 : decode cX7_findPerches 58 = .ok (.if_icmp .gt 7, 3) := by decide +kernel
theorem dX7_findPerches_61 : decode cX7_findPerches 61 = .ok (.iconst 1, 1) := by decide +kernel
theorem dX7_findPerches_62 : decode cX7_findPerches 62 = .ok (.goto 4, 3) := by decide +kernel
theorem dX7_findPerches_65 : decode cX7_findPerches 65 = .ok (.iconst 0, 1) := by decide +kernel
theorem dX7_findPerches_66 : decode cX7_findPerches 66 = .ok (.iadd, 1) := by decide +kernel
theorem dX7_findPerches_67 : decode cX7_findPerches 67 = .ok (.istore_n 3, 1) := by decide +kernel
theorem dX7_findPerches_68 : decode cX7_findPerches 68 = .ok (.iinc 4 1, 3) := by decide +kernel
theorem dX7_findPerches_71 : decode cX7_findPerches 71 = .ok (.goto (-41), 3) := by decide +kernel
theorem dX7_findPerches_74 : decode cX7_findPerches 74 = .ok (.iload_n 3, 1) := by decide +kernel
theorem dX7_findPerches_75 : decode cX7_findPerches 75 = .ok (.iload_n 1, 1) := by decide +kernel
theorem dX7_findPerches_76 : decode cX7_findPerches 76 = .ok (.if_icmp .le 37, 3) := by decide +kernel
theorem dX7_findPerches_79 : decode cX7_findPerches 79 = .ok (.iload_n 3, 1) := by decide +kernel
theorem dX7_findPerches_80 : decode cX7_findPerches 80 = .ok (.istore_n 1, 1) := by decide +kernel
theorem dX7_findPerches_81 : decode cX7_findPerches 81 = .ok (.iconst 0, 1) := by decide +kernel
theorem dX7_findPerches_82 : decode cX7_findPerches 82 = .ok (.istore 4, 2) := by decide +kernel
theorem dX7_findPerches_84 : decode cX7_findPerches 84 = .ok (.iload 4, 2) := by decide +kernel
theorem dX7_findPerches_86 : decode cX7_findPerches 86 = .ok (.aload_n 0, 1) := by decide +kernel
theorem dX7_findPerches_87 : decode cX7_findPerches 87 = .ok (.getfield 65, 3) := by decide +kernel
theorem dX7_findPerches_90 : decode cX7_findPerches 90 = .ok (.if_icmp .ge 23, 3) := by decide +kernel
theorem dX7_findPerches_93 : decode cX7_findPerches 93 = .ok (.aload_n 0, 1) := by decide +kernel
theorem dX7_findPerches_94 : decode cX7_findPerches 94 = .ok (.getfield 43, 3) := by decide +kernel
theorem dX7_findPerches_97 : decode cX7_findPerches 97 = .ok (.iload 4, 2) := by decide +kernel
theorem dX7_findPerches_99 : decode cX7_findPerches 99 = .ok (.aload_n 0, 1) := by decide +kernel
theorem dX7_findPerches_100 : decode cX7_findPerches 100 = .ok (.getfield 40, 3) := by decide +kernel
theorem dX7_findPerches_103 : decode cX7_findPerches 103 = .ok (.iload 4, 2) := by decide +kernel
theorem dX7_findPerches_105 : decode cX7_findPerches 105 = .ok (.iaload, 1) := by decide +kernel
theorem dX7_findPerches_106 : decode cX7_findPerches 106 = .ok (.iastore, 1) := by decide +kernel
theorem dX7_findPerches_107 : decode cX7_findPerches 107 = .ok (.iinc 4 1, 3) := by decide +kernel
theorem dX7_findPerches_110 : decode cX7_findPerches 110 = .ok (.goto (-26), 3) := by decide +kernel
theorem dX7_findPerches_113 : decode cX7_findPerches 113 = .ok (.iinc 2 1, 3) := by decide +kernel
theorem dX7_findPerches_116 : decode cX7_findPerches 116 = .ok (.goto (-111), 3) := by decide +kernel
theorem dX7_findPerches_119 : decode cX7_findPerches 119 = .ok (.iload_n 1, 1) := by decide +kernel
theorem dX7_findPerches_120 : decode cX7_findPerches 120 = .ok (.ireturn, 1) := by decide +kernel
set_option maxRecDepth 20000 in
theorem ggX7_perches_X7_within : GoodIn wsX7_perches wsX7_within := goodIn_r _ [6] (by decide +kernel) (by decide +kernel)
set_option maxRecDepth 20000 in
theorem gX7_perches_X7_within : GoodIn wsX7_perches (va_wsS RX7 61 yX7_within wsX7_within) := goodIn_app (goodIn_of _ (by decide +kernel)) ggX7_perches_X7_within
set_option maxRecDepth 20000 in
theorem ggX7_perches_X7_findPerches : GoodIn wsX7_perches wsX7_findPerches := goodIn_r _ [10, 1, 11, 12, 2, 13, 14, 5, 15, 16, 17, 18, 19, 20, 21, 22, 23, 24, 25, 26, 27, 28, 29, 30, 31, 36, 37, 38, 39, 40, 41, 42, 43, 44, 45, 46, 47, 48, 49, 50, 51, 52, 53, 54, 55, 56, 57, 58, 59, 60, 61, 62, 63, 64] (by decide +kernel) (by decide +kernel)
set_option maxRecDepth 20000 in
theorem gX7_perches_X7_findPerches : GoodIn wsX7_perches (wsV RX7 200 RX7 yX7_findPerches wsX7_findPerches) := goodIn_app (goodIn_of _ (by decide +kernel)) ggX7_perches_X7_findPerches
set_option maxRecDepth 20000 in
theorem ggX7_perches_X7_isGallery : GoodIn wsX7_perches wsX7_isGallery := goodIn_r _ [35, 1, 36, 37, 38, 39, 40, 41, 42, 43, 44, 45, 46, 47, 48, 49, 50, 51, 52, 53, 54, 55, 56, 57, 58, 59, 60, 61, 62, 63, 64] (by decide +kernel) (by decide +kernel)
set_option maxRecDepth 20000 in
theorem gX7_perches_X7_isGallery : GoodIn wsX7_perches (wsV RX7 131 RX7 yX7_isGallery wsX7_isGallery) := goodIn_app (goodIn_of _ (by decide +kernel)) ggX7_perches_X7_isGallery
theorem dX7_perches_0 : decode cX7_perches 0 = .ok (.iload_n 1, 1) := by decide +kernel
theorem dX7_perches_1 : decode cX7_perches 1 = .ok (.iconst (-1), 1) := by decide +kernel
theorem dX7_perches_2 : decode cX7_perches 2 = .ok (.iconst 5, 1) := by decide +kernel
theorem dX7_perches_3 : decode cX7_perches 3 = .ok (.invokestatic 61, 3) := by decide +kernel
theorem dX7_perches_6 : decode cX7_perches 6 = .ok (.ifCond .ne 6, 3) := by decide +kernel
theorem dX7_perches_9 : decode cX7_perches 9 = .ok (.bipush (-2), 2) := by decide +kernel
theorem dX7_perches_11 : decode cX7_perches 11 = .ok (.ireturn, 1) := by decide +kernel
theorem dX7_perches_12 : decode cX7_perches 12 = .ok (.aload_n 0, 1) := by decide +kernel
theorem dX7_perches_13 : decode cX7_perches 13 = .ok (.getfield 65, 3) := by decide +kernel
theorem dX7_perches_16 : decode cX7_perches 16 = .ok (.ifCond .ne 6, 3) := by decide +kernel
theorem dX7_perches_19 : decode cX7_perches 19 = .ok (.bipush (-3), 2) := by decide +kernel
theorem dX7_perches_21 : decode cX7_perches 21 = .ok (.ireturn, 1) := by decide +kernel
theorem dX7_perches_22 : decode cX7_perches 22 = .ok (.aload_n 0, 1) := by decide +kernel
theorem dX7_perches_23 : decode cX7_perches 23 = .ok (.invokevirtual 200, 3) := by decide +kernel
theorem dX7_perches_26 : decode cX7_perches 26 = .ok (.istore_n 2, 1) := by decide +kernel
theorem dX7_perches_27 : decode cX7_perches 27 = .ok (.iload_n 1, 1) := by decide +kernel
theorem dX7_perches_28 : decode cX7_perches 28 = .ok (.iconst (-1), 1) := by decide +kernel
theorem dX7_perches_29 : decode cX7_perches 29 = .ok (.if_icmp .ne 7, 3) := by decide +kernel
theorem dX7_perches_32 : decode cX7_perches 32 = .ok (.iload_n 2, 1) := by decide +kernel
theorem dX7_perches_33 : decode cX7_perches 33 = .ok (.goto 22, 3) := by decide +kernel
theorem dX7_perches_36 : decode cX7_perches 36 = .ok (.aload_n 0, 1) := by decide +kernel
theorem dX7_perches_37 : decode cX7_perches 37 = .ok (.iload_n 1, 1) := by decide +kernel
theorem dX7_perches_38 : decode cX7_perches 38 = .ok (.invokevirtual 131, 3) := by decide +kernel
theorem dX7_perches_41 : decode cX7_perches 41 = .ok (.ifCond .eq 12, 3) := by decide +kernel
theorem dX7_perches_44 : decode cX7_perches 44 = .ok (.aload_n 0, 1) := by decide +kernel
theorem dX7_perches_45 : decode cX7_perches 45 = .ok (.getfield 43, 3) := by decide +kernel
theorem dX7_perches_48 : decode cX7_perches 48 = .ok (.iload_n 1, 1) := by decide +kernel
theorem dX7_perches_49 : decode cX7_perches 49 = .ok (.iaload, 1) := by decide +kernel
theorem dX7_perches_50 : decode cX7_perches 50 = .ok (.goto 5, 3) := by decide +kernel
theorem dX7_perches_53 : decode cX7_perches 53 = .ok (.bipush (-9), 2) := by decide +kernel
theorem dX7_perches_55 : decode cX7_perches 55 = .ok (.ireturn, 1) := by decide +kernel
set_option maxRecDepth 20000 in
theorem ggX7_isFound_X7_keep : GoodIn wsX7_isFound wsX7_keep := goodIn_r _ [8, 9, 10, 1, 11, 2, 46, 47, 48, 49, 50, 51, 52, 53, 54, 55, 56, 57, 58, 59, 60, 61, 62, 63, 64, 65, 66, 67, 68, 69, 70, 71, 72, 73, 74] (by decide +kernel) (by decide +kernel)
set_option maxRecDepth 20000 in
theorem gX7_isFound_X7_keep : GoodIn wsX7_isFound (wsV RX7 179 RX7 yX7_keep wsX7_keep) := goodIn_app (goodIn_of _ (by decide +kernel)) ggX7_isFound_X7_keep
set_option maxRecDepth 20000 in
theorem ggX7_isFound_X7_breathe : GoodIn wsX7_isFound wsX7_breathe := goodIn_r _ [15, 16, 17, 18, 7, 19, 2, 20, 21, 22, 23, 24, 1, 25, 26, 27, 28, 29, 30, 31, 32, 9, 33, 34, 35, 36, 37, 38, 39, 40, 41, 46, 47, 48, 49, 50, 51, 52, 53, 54, 55, 56, 57, 58, 59, 60, 61, 62, 63, 64, 65, 66, 67, 68, 69, 70, 71, 72, 73, 74] (by decide +kernel) (by decide +kernel)
set_option maxRecDepth 20000 in
theorem gX7_isFound_X7_breathe : GoodIn wsX7_isFound (wsV RX7 157 RX7 yX7_breathe wsX7_breathe) := goodIn_app (goodIn_of _ (by decide +kernel)) ggX7_isFound_X7_breathe
set_option maxRecDepth 20000 in
theorem ggX7_isFound_X7_putBack : GoodIn wsX7_isFound wsX7_putBack := goodIn_r _ [45, 10, 9, 1, 2, 11, 46, 47, 48, 49, 50, 51, 52, 53, 54, 55, 56, 57, 58, 59, 60, 61, 62, 63, 64, 65, 66, 67, 68, 69, 70, 71, 72, 73, 74] (by decide +kernel) (by decide +kernel)
set_option maxRecDepth 20000 in
theorem gX7_isFound_X7_putBack : GoodIn wsX7_isFound (wsV RX7 188 RX7 yX7_putBack wsX7_putBack) := goodIn_app (goodIn_of _ (by decide +kernel)) ggX7_isFound_X7_putBack
theorem dX7_isFound_0 : decode cX7_isFound 0 = .ok (.aload_n 0, 1) := by decide +kernel
theorem dX7_isFound_1 : decode cX7_isFound 1 = .ok (.invokevirtual 179, 3) := by decide +kernel
theorem dX7_isFound_4 : decode cX7_isFound 4 = .ok (.aload_n 0, 1) := by decide +kernel
theorem dX7_isFound_5 : decode cX7_isFound 5 = .ok (.iload_n 2, 1) := by decide +kernel
theorem dX7_isFound_6 : decode cX7_isFound 6 = .ok (.iload_n 3, 1) := by decide +kernel
theorem dX7_isFound_7 : decode cX7_isFound 7 = .ok (.invokevirtual 157, 3) := by decide +kernel
theorem dX7_isFound_10 : decode cX7_isFound 10 = .ok (.pop, 1) := by decide +kernel
theorem dX7_isFound_11 : decode cX7_isFound 11 = .ok (.iconst 1, 1) := by decide +kernel
theorem dX7_isFound_12 : decode cX7_isFound 12 = .ok (.istore 4, 2) := by decide +kernel
theorem dX7_isFound_14 : decode cX7_isFound 14 = .ok (.iconst 0, 1) := by decide +kernel
theorem dX7_isFound_15 : decode cX7_isFound 15 = .ok (.istore 5, 2) := by decide +kernel
theorem dX7_isFound_17 : decode cX7_isFound 17 = .ok (.iload 5, 2) := by decide +kernel
theorem dX7_isFound_19 : decode cX7_isFound 19 = .ok (.aload_n 0, 1) := by decide +kernel
theorem dX7_isFound_20 : decode cX7_isFound 20 = .ok (.getfield 65, 3) := by decide +kernel
theorem dX7_isFound_23 : decode cX7_isFound 23 = .ok (.if_icmp .ge 40, 3) := by decide +kernel
theorem dX7_isFound_26 : decode cX7_isFound 26 = .ok (.iload 4, 2) := by decide +kernel
theorem dX7_isFound_28 : decode cX7_isFound 28 = .ok (.ifCond .eq 26, 3) := by decide +kernel
theorem dX7_isFound_31 : decode cX7_isFound 31 = .ok (.aload_n 0, 1) := by decide +kernel
theorem dX7_isFound_32 : decode cX7_isFound 32 = .ok (.getfield 25, 3) := by decide +kernel
theorem dX7_isFound_35 : decode cX7_isFound 35 = .ok (.iload 5, 2) := by decide +kernel
theorem dX7_isFound_37 : decode cX7_isFound 37 = .ok (.iaload, 1) := by decide +kernel
theorem dX7_isFound_38 : decode cX7_isFound 38 = .ok (.aload_n 0, 1) := by decide +kernel
theorem dX7_isFound_39 : decode cX7_isFound 39 = .ok (.getfield 16, 3) := by decide +kernel
theorem dX7_isFound_42 : decode cX7_isFound 42 = .ok (.iload_n 1, 1) := by decide +kernel
theorem dX7_isFound_43 : decode cX7_isFound 43 = .ok (.iload 5, 2) := by decide +kernel
theorem dX7_isFound_45 : decode cX7_isFound 45 = .ok (.iadd, 1) := by decide +kernel
theorem dX7_isFound_46 : decode cX7_isFound 46 = .ok (.iaload, 1) := by decide +kernel
theorem dX7_isFound_47 : decode cX7_isFound 47 = .ok (.if_icmp .ne 7, 3) := by decide +kernel
theorem dX7_isFound_50 : decode cX7_isFound 50 = .ok (.iconst 1, 1) := by decide +kernel
theorem dX7_isFound_51 : decode cX7_isFound 51 = .ok (.goto 4, 3) := by decide +kernel
theorem dX7_isFound_54 : decode cX7_isFound 54 = .ok (.iconst 0, 1) := by decide +kernel
theorem dX7_isFound_55 : decode cX7_isFound 55 = .ok (.istore 4, 2) := by decide +kernel
theorem dX7_isFound_57 : decode cX7_isFound 57 = .ok (.iinc 5 1, 3) := by decide +kernel
theorem dX7_isFound_60 : decode cX7_isFound 60 = .ok (.goto (-43), 3) := by decide +kernel
theorem dX7_isFound_63 : decode cX7_isFound 63 = .ok (.aload_n 0, 1) := by decide +kernel
theorem dX7_isFound_64 : decode cX7_isFound 64 = .ok (.invokevirtual 188, 3) := by decide +kernel
theorem dX7_isFound_67 : decode cX7_isFound 67 = .ok (.iload 4, 2) := by decide +kernel
theorem dX7_isFound_69 : decode cX7_isFound 69 = .ok (.ireturn, 1) := by decide +kernel
set_option maxRecDepth 20000 in
theorem ggX7_found_X7_isSheet : GoodIn wsX7_found wsX7_isSheet := goodIn_r _ [7, 8, 9, 6, 10] (by decide +kernel) (by decide +kernel)
set_option maxRecDepth 20000 in
theorem gX7_found_X7_isSheet : GoodIn wsX7_found (va_wsS RX7 74 yX7_isSheet wsX7_isSheet) := goodIn_app (goodIn_of _ (by decide +kernel)) ggX7_found_X7_isSheet
set_option maxRecDepth 20000 in
theorem ggX7_found_X7_isSort : GoodIn wsX7_found wsX7_isSort := goodIn_r _ [13, 8, 9, 6, 10] (by decide +kernel) (by decide +kernel)
set_option maxRecDepth 20000 in
theorem gX7_found_X7_isSort : GoodIn wsX7_found (va_wsS RX7 78 yX7_isSort wsX7_isSort) := goodIn_app (goodIn_of _ (by decide +kernel)) ggX7_found_X7_isSort
set_option maxRecDepth 20000 in
theorem ggX7_found_X7_within : GoodIn wsX7_found wsX7_within := goodIn_r _ [10] (by decide +kernel) (by decide +kernel)
set_option maxRecDepth 20000 in
theorem gX7_found_X7_within : GoodIn wsX7_found (va_wsS RX7 61 yX7_within wsX7_within) := goodIn_app (goodIn_of _ (by decide +kernel)) ggX7_found_X7_within
set_option maxRecDepth 20000 in
theorem ggX7_found_X7_against : GoodIn wsX7_found wsX7_against := goodIn_r _ [17, 18, 19, 71, 72, 73, 74, 75, 76, 77, 78, 79, 80, 81, 82, 83, 84, 85, 86, 87, 88, 89, 90, 91, 92, 93, 94, 95, 96, 97, 98, 99] (by decide +kernel) (by decide +kernel)
set_option maxRecDepth 20000 in
theorem gX7_found_X7_against : GoodIn wsX7_found (wsV RX7 81 RX7 yX7_against wsX7_against) := goodIn_app (goodIn_of _ (by decide +kernel)) ggX7_found_X7_against
set_option maxRecDepth 20000 in
theorem ggX7_found_X7_fails : GoodIn wsX7_found wsX7_fails := goodIn_r _ [23, 1, 71, 72, 73, 74, 75, 76, 77, 78, 79, 80, 81, 82, 83, 84, 85, 86, 87, 88, 89, 90, 91, 92, 93, 94, 95, 96, 97, 98, 99] (by decide +kernel) (by decide +kernel)
set_option maxRecDepth 20000 in
theorem gX7_found_X7_fails : GoodIn wsX7_found (wsV RX7 85 RX7 yX7_fails wsX7_fails) := goodIn_app (goodIn_of _ (by decide +kernel)) ggX7_found_X7_fails
set_option maxRecDepth 20000 in
theorem ggX7_found_X7_isFound : GoodIn wsX7_found wsX7_isFound := goodIn_r _ [27, 2, 28, 29, 30, 31, 32, 6, 33, 34, 35, 36, 37, 38, 39, 40, 41, 42, 43, 44, 45, 46, 47, 48, 49, 50, 51, 52, 53, 54, 55, 56, 57, 58, 59, 60, 61, 62, 63, 64, 65, 66, 67, 68, 69, 70, 71, 72, 73, 74, 75, 76, 77, 78, 79, 80, 81, 82, 83, 84, 85, 86, 87, 88, 89, 90, 91, 92, 93, 94, 95, 96, 97, 98, 99] (by decide +kernel) (by decide +kernel)
set_option maxRecDepth 20000 in
theorem gX7_found_X7_isFound : GoodIn wsX7_found (wsV RX7 203 RX7 yX7_isFound wsX7_isFound) := goodIn_app (goodIn_of _ (by decide +kernel)) ggX7_found_X7_isFound
theorem dX7_found_0 : decode cX7_found 0 = .ok (.aload_n 0, 1) := by decide +kernel
theorem dX7_found_1 : decode cX7_found 1 = .ok (.iconst 0, 1) := by decide +kernel
theorem dX7_found_2 : decode cX7_found 2 = .ok (.putfield 55, 3) := by decide +kernel
theorem dX7_found_5 : decode cX7_found 5 = .ok (.iload_n 1, 1) := by decide +kernel
theorem dX7_found_6 : decode cX7_found 6 = .ok (.invokestatic 74, 3) := by decide +kernel
theorem dX7_found_9 : decode cX7_found 9 = .ok (.ifCond .ne 5, 3) := by decide +kernel
theorem dX7_found_12 : decode cX7_found 12 = .ok (.iconst (-1), 1) := by decide +kernel
theorem dX7_found_13 : decode cX7_found 13 = .ok (.ireturn, 1) := by decide +kernel
theorem dX7_found_14 : decode cX7_found 14 = .ok (.iload_n 2, 1) := by decide +kernel
theorem dX7_found_15 : decode cX7_found 15 = .ok (.invokestatic 78, 3) := by decide +kernel
theorem dX7_found_18 : decode cX7_found 18 = .ok (.ifCond .eq 14, 3) := by decide +kernel
theorem dX7_found_21 : decode cX7_found 21 = .ok (.iload 4, 2) := by decide +kernel
theorem dX7_found_23 : decode cX7_found 23 = .ok (.iconst (-1), 1) := by decide +kernel
theorem dX7_found_24 : decode cX7_found 24 = .ok (.bipush 23, 2) := by decide +kernel
theorem dX7_found_26 : decode cX7_found 26 = .ok (.invokestatic 61, 3) := by decide +kernel
theorem dX7_found_29 : decode cX7_found 29 = .ok (.ifCond .ne 6, 3) := by decide +kernel
theorem dX7_found_32 : decode cX7_found 32 = .ok (.bipush (-2), 2) := by decide +kernel
theorem dX7_found_34 : decode cX7_found 34 = .ok (.ireturn, 1) := by decide +kernel
theorem dX7_found_35 : decode cX7_found 35 = .ok (.aload_n 0, 1) := by decide +kernel
theorem dX7_found_36 : decode cX7_found 36 = .ok (.getfield 65, 3) := by decide +kernel
theorem dX7_found_39 : decode cX7_found 39 = .ok (.ifCond .ne 6, 3) := by decide +kernel
theorem dX7_found_42 : decode cX7_found 42 = .ok (.bipush (-3), 2) := by decide +kernel
theorem dX7_found_44 : decode cX7_found 44 = .ok (.ireturn, 1) := by decide +kernel
theorem dX7_found_45 : decode cX7_found 45 = .ok (.aload_n 0, 1) := by decide +kernel
theorem dX7_found_46 : decode cX7_found 46 = .ok (.iload_n 1, 1) := by decide +kernel
theorem dX7_found_47 : decode cX7_found 47 = .ok (.iload_n 2, 1) := by decide +kernel
theorem dX7_found_48 : decode cX7_found 48 = .ok (.iload_n 3, 1) := by decide +kernel
theorem dX7_found_49 : decode cX7_found 49 = .ok (.aload_n 0, 1) := by decide +kernel
theorem dX7_found_50 : decode cX7_found 50 = .ok (.getfield 65, 3) := by decide +kernel
theorem dX7_found_53 : decode cX7_found 53 = .ok (.invokevirtual 81, 3) := by decide +kernel
theorem dX7_found_56 : decode cX7_found 56 = .ok (.istore 5, 2) := by decide +kernel
theorem dX7_found_58 : decode cX7_found 58 = .ok (.iload 5, 2) := by decide +kernel
theorem dX7_found_60 : decode cX7_found 60 = .ok (.ifCond .eq 10, 3) := by decide +kernel
theorem dX7_found_63 : decode cX7_found 63 = .ok (.aload_n 0, 1) := by decide +kernel
theorem dX7_found_64 : decode cX7_found 64 = .ok (.iload 5, 2) := by decide +kernel
theorem dX7_found_66 : decode cX7_found 66 = .ok (.invokevirtual 85, 3) := by decide +kernel
theorem dX7_found_69 : decode cX7_found 69 = .ok (.ireturn, 1) := by decide +kernel
theorem dX7_found_70 : decode cX7_found 70 = .ok (.iconst 0, 1) := by decide +kernel
theorem dX7_found_71 : decode cX7_found 71 = .ok (.istore 6, 2) := by decide +kernel
theorem dX7_found_73 : decode cX7_found 73 = .ok (.iconst 0, 1) := by decide +kernel
theorem dX7_found_74 : decode cX7_found 74 = .ok (.istore 7, 2) := by decide +kernel
theorem dX7_found_76 : decode cX7_found 76 = .ok (.iload 7, 2) := by decide +kernel
theorem dX7_found_78 : decode cX7_found 78 = .ok (.aload_n 0, 1) := by decide +kernel
theorem dX7_found_79 : decode cX7_found 79 = .ok (.getfield 65, 3) := by decide +kernel
theorem dX7_found_82 : decode cX7_found 82 = .ok (.aload_n 0, 1) := by decide +kernel
theorem dX7_found_83 : decode cX7_found 83 = .ok (.getfield 68, 3) := by decide +kernel
theorem dX7_found_86 : decode cX7_found 86 = .ok (.imul, 1) := by decide +kernel
theorem dX7_found_87 : decode cX7_found 87 = .ok (.if_icmp .ge 65, 3) := by decide +kernel
theorem dX7_found_90 : decode cX7_found 90 = .ok (.aload_n 0, 1) := by decide +kernel
theorem dX7_found_91 : decode cX7_found 91 = .ok (.bipush 60, 2) := by decide +kernel
theorem dX7_found_93 : decode cX7_found 93 = .ok (.iload_n 1, 1) := by decide +kernel
theorem dX7_found_94 : decode cX7_found 94 = .ok (.imul, 1) := by decide +kernel
theorem dX7_found_95 : decode cX7_found 95 = .ok (.iload_n 3, 1) := by decide +kernel
theorem dX7_found_96 : decode cX7_found 96 = .ok (.iadd, 1) := by decide +kernel
theorem dX7_found_97 : decode cX7_found 97 = .ok (.iload 7, 2) := by decide +kernel
theorem dX7_found_99 : decode cX7_found 99 = .ok (.aload_n 0, 1) := by decide +kernel
theorem dX7_found_100 : decode cX7_found 100 = .ok (.getfield 68, 3) := by decide +kernel
theorem dX7_found_103 : decode cX7_found 103 = .ok (.idiv, 1) := by decide +kernel
theorem dX7_found_104 : decode cX7_found 104 = .ok (.iload 7, 2) := by decide +kernel
theorem dX7_found_106 : decode cX7_found 106 = .ok (.aload_n 0, 1) := by decide +kernel
theorem dX7_found_107 : decode cX7_found 107 = .ok (.getfield 68, 3) := by decide +kernel
theorem dX7_found_110 : decode cX7_found 110 = .ok (.irem, 1) := by decide +kernel
theorem dX7_found_111 : decode cX7_found 111 = .ok (.invokevirtual 203, 3) := by decide +kernel
theorem dX7_found_114 : decode cX7_found 114 = .ok (.ifCond .eq 32, 3) := by decide +kernel
theorem dX7_found_117 : decode cX7_found 117 = .ok (.iload 6, 2) := by decide +kernel
theorem dX7_found_119 : decode cX7_found 119 = .ok (.iload 4, 2) := by decide +kernel
theorem dX7_found_121 : decode cX7_found 121 = .ok (.if_icmp .ne 22, 3) := by decide +kernel
theorem dX7_found_124 : decode cX7_found 124 = .ok (.bipush 10, 2) := by decide +kernel
theorem dX7_found_126 : decode cX7_found 126 = .ok (.iload 7, 2) := by decide +kernel
theorem dX7_found_128 : decode cX7_found 128 = .ok (.aload_n 0, 1) := by decide +kernel
theorem dX7_found_129 : decode cX7_found 129 = .ok (.getfield 68, 3) := by decide +kernel
theorem dX7_found_132 : decode cX7_found 132 = .ok (.idiv, 1) := by decide +kernel
theorem dX7_found_133 : decode cX7_found 133 = .ok (.imul, 1) := by decide +kernel
theorem dX7_found_134 : decode cX7_found 134 = .ok (.iload 7, 2) := by decide +kernel
theorem dX7_found_136 : decode cX7_found 136 = .ok (.aload_n 0, 1) := by decide +kernel
theorem dX7_found_137 : decode cX7_found 137 = .ok (.getfield 68, 3) := by decide +kernel
theorem dX7_found_140 : decode cX7_found 140 = .ok (.irem, 1) := by decide +kernel
theorem dX7_found_141 : decode cX7_found 141 = .ok (.iadd, 1) := by decide +kernel
theorem dX7_found_142 : decode cX7_found 142 = .ok (.ireturn, 1) := by decide +kernel
theorem dX7_found_143 : decode cX7_found 143 = .ok (.iinc 6 1, 3) := by decide +kernel
theorem dX7_found_146 : decode cX7_found 146 = .ok (.iinc 7 1, 3) := by decide +kernel
theorem dX7_found_149 : decode cX7_found 149 = .ok (.goto (-73), 3) := by decide +kernel
theorem dX7_found_152 : decode cX7_found 152 = .ok (.iload 4, 2) := by decide +kernel
theorem dX7_found_154 : decode cX7_found 154 = .ok (.iconst (-1), 1) := by decide +kernel
theorem dX7_found_155 : decode cX7_found 155 = .ok (.if_icmp .ne 8, 3) := by decide +kernel
theorem dX7_found_158 : decode cX7_found 158 = .ok (.iload 6, 2) := by decide +kernel
theorem dX7_found_160 : decode cX7_found 160 = .ok (.goto 5, 3) := by decide +kernel
theorem dX7_found_163 : decode cX7_found 163 = .ok (.bipush (-9), 2) := by decide +kernel
theorem dX7_found_165 : decode cX7_found 165 = .ok (.ireturn, 1) := by decide +kernel
set_option maxRecDepth 20000 in
theorem ggX7_reading_X7_isGallery : GoodIn wsX7_reading wsX7_isGallery := goodIn_r _ [9, 10, 14, 15, 16, 17, 18, 19, 20, 21, 22, 23, 24, 25, 26, 27, 28, 29, 30, 31, 32, 33, 34, 35, 36, 37, 38, 39, 40, 41, 42] (by decide +kernel) (by decide +kernel)
set_option maxRecDepth 20000 in
theorem gX7_reading_X7_isGallery : GoodIn wsX7_reading (wsV RX7 131 RX7 yX7_isGallery wsX7_isGallery) := goodIn_app (goodIn_of _ (by decide +kernel)) ggX7_reading_X7_isGallery
set_option maxRecDepth 20000 in
theorem ggX7_reading_X7_within : GoodIn wsX7_reading wsX7_within := goodIn_r _ [13] (by decide +kernel) (by decide +kernel)
set_option maxRecDepth 20000 in
theorem gX7_reading_X7_within : GoodIn wsX7_reading (va_wsS RX7 61 yX7_within wsX7_within) := goodIn_app (goodIn_of _ (by decide +kernel)) ggX7_reading_X7_within
theorem dX7_reading_0 : decode cX7_reading 0 = .ok (.aload_n 0, 1) := by decide +kernel
theorem dX7_reading_1 : decode cX7_reading 1 = .ok (.iload_n 1, 1) := by decide +kernel
theorem dX7_reading_2 : decode cX7_reading 2 = .ok (.invokevirtual 131, 3) := by decide +kernel
theorem dX7_reading_5 : decode cX7_reading 5 = .ok (.ifCond .ne 5, 3) := by decide +kernel
theorem dX7_reading_8 : decode cX7_reading 8 = .ok (.iconst (-1), 1) := by decide +kernel
theorem dX7_reading_9 : decode cX7_reading 9 = .ok (.ireturn, 1) := by decide +kernel
theorem dX7_reading_10 : decode cX7_reading 10 = .ok (.iload_n 2, 1) := by decide +kernel
theorem dX7_reading_11 : decode cX7_reading 11 = .ok (.iconst 0, 1) := by decide +kernel
theorem dX7_reading_12 : decode cX7_reading 12 = .ok (.bipush 40, 2) := by decide +kernel
theorem dX7_reading_14 : decode cX7_reading 14 = .ok (.invokestatic 61, 3) := by decide +kernel
theorem dX7_reading_17 : decode cX7_reading 17 = .ok (.ifCond .eq 12, 3) := by decide +kernel
theorem dX7_reading_20 : decode cX7_reading 20 = .ok (.iload_n 3, 1) := by decide +kernel
theorem dX7_reading_21 : decode cX7_reading 21 = .ok (.iconst 0, 1) := by decide +kernel
theorem dX7_reading_22 : decode cX7_reading 22 = .ok (.iconst 1, 1) := by decide +kernel
theorem dX7_reading_23 : decode cX7_reading 23 = .ok (.invokestatic 61, 3) := by decide +kernel
theorem dX7_reading_26 : decode cX7_reading 26 = .ok (.ifCond .ne 6, 3) := by decide +kernel
theorem dX7_reading_29 : decode cX7_reading 29 = .ok (.bipush (-2), 2) := by decide +kernel
theorem dX7_reading_31 : decode cX7_reading 31 = .ok (.ireturn, 1) := by decide +kernel
theorem dX7_reading_32 : decode cX7_reading 32 = .ok (.aload_n 0, 1) := by decide +kernel
theorem dX7_reading_33 : decode cX7_reading 33 = .ok (.getfield 110, 3) := by decide +kernel
theorem dX7_reading_36 : decode cX7_reading 36 = .ok (.bipush 8, 2) := by decide +kernel
theorem dX7_reading_38 : decode cX7_reading 38 = .ok (.if_icmp .ne 6, 3) := by decide +kernel
theorem dX7_reading_41 : decode cX7_reading 41 = .ok (.bipush (-4), 2) := by decide +kernel
theorem dX7_reading_43 : decode cX7_reading 43 = .ok (.ireturn, 1) := by decide +kernel
theorem dX7_reading_44 : decode cX7_reading 44 = .ok (.aload_n 0, 1) := by decide +kernel
theorem dX7_reading_45 : decode cX7_reading 45 = .ok (.getfield 46, 3) := by decide +kernel
theorem dX7_reading_48 : decode cX7_reading 48 = .ok (.aload_n 0, 1) := by decide +kernel
theorem dX7_reading_49 : decode cX7_reading 49 = .ok (.getfield 110, 3) := by decide +kernel
theorem dX7_reading_52 : decode cX7_reading 52 = .ok (.iload_n 1, 1) := by decide +kernel
theorem dX7_reading_53 : decode cX7_reading 53 = .ok (.iastore, 1) := by decide +kernel
theorem dX7_reading_54 : decode cX7_reading 54 = .ok (.aload_n 0, 1) := by decide +kernel
theorem dX7_reading_55 : decode cX7_reading 55 = .ok (.getfield 49, 3) := by decide +kernel
theorem dX7_reading_58 : decode cX7_reading 58 = .ok (.aload_n 0, 1) := by decide +kernel
theorem dX7_reading_59 : decode cX7_reading 59 = .ok (.getfield 110, 3) := by decide +kernel
theorem dX7_reading_62 : decode cX7_reading 62 = .ok (.iload_n 2, 1) := by decide +kernel
theorem dX7_reading_63 : decode cX7_reading 63 = .ok (.iastore, 1) := by decide +kernel
theorem dX7_reading_64 : decode cX7_reading 64 = .ok (.aload_n 0, 1) := by decide +kernel
theorem dX7_reading_65 : decode cX7_reading 65 = .ok (.getfield 52, 3) := by decide +kernel
theorem dX7_reading_68 : decode cX7_reading 68 = .ok (.aload_n 0, 1) := by decide +kernel
theorem dX7_reading_69 : decode cX7_reading 69 = .ok (.getfield 110, 3) := by decide +kernel
theorem dX7_reading_72 : decode cX7_reading 72 = .ok (.iload_n 3, 1) := by decide +kernel
theorem dX7_reading_73 : decode cX7_reading 73 = .ok (.iastore, 1) := by decide +kernel
theorem dX7_reading_74 : decode cX7_reading 74 = .ok (.aload_n 0, 1) := by decide +kernel
theorem dX7_reading_75 : decode cX7_reading 75 = .ok (.dup, 1) := by decide +kernel
theorem dX7_reading_76 : decode cX7_reading 76 = .ok (.getfield 110, 3) := by decide +kernel
theorem dX7_reading_79 : decode cX7_reading 79 = .ok (.iconst 1, 1) := by decide +kernel
theorem dX7_reading_80 : decode cX7_reading 80 = .ok (.iadd, 1) := by decide +kernel
theorem dX7_reading_81 : decode cX7_reading 81 = .ok (.putfield 110, 3) := by decide +kernel
theorem dX7_reading_84 : decode cX7_reading 84 = .ok (.aload_n 0, 1) := by decide +kernel
theorem dX7_reading_85 : decode cX7_reading 85 = .ok (.getfield 110, 3) := by decide +kernel
theorem dX7_reading_88 : decode cX7_reading 88 = .ok (.iconst 1, 1) := by decide +kernel
theorem dX7_reading_89 : decode cX7_reading 89 = .ok (.isub, 1) := by decide +kernel
theorem dX7_reading_90 : decode cX7_reading 90 = .ok (.ireturn, 1) := by decide +kernel
set_option maxRecDepth 20000 in
theorem ggX7_back_X7_within : GoodIn wsX7_back wsX7_within := goodIn_r _ [5] (by decide +kernel) (by decide +kernel)
set_option maxRecDepth 20000 in
theorem gX7_back_X7_within : GoodIn wsX7_back (va_wsS RX7 61 yX7_within wsX7_within) := goodIn_app (goodIn_of _ (by decide +kernel)) ggX7_back_X7_within
theorem dX7_back_0 : decode cX7_back 0 = .ok (.iload_n 1, 1) := by decide +kernel
theorem dX7_back_1 : decode cX7_back 1 = .ok (.iconst 0, 1) := by decide +kernel
theorem dX7_back_2 : decode cX7_back 2 = .ok (.aload_n 0, 1) := by decide +kernel
theorem dX7_back_3 : decode cX7_back 3 = .ok (.getfield 110, 3) := by decide +kernel
theorem dX7_back_6 : decode cX7_back 6 = .ok (.invokestatic 61, 3) := by decide +kernel
theorem dX7_back_9 : decode cX7_back 9 = .ok (.ifCond .ne 6, 3) := by decide +kernel
theorem dX7_back_12 : decode cX7_back 12 = .ok (.bipush (-2), 2) := by decide +kernel
theorem dX7_back_14 : decode cX7_back 14 = .ok (.ireturn, 1) := by decide +kernel
theorem dX7_back_15 : decode cX7_back 15 = .ok (.aload_n 0, 1) := by decide +kernel
theorem dX7_back_16 : decode cX7_back 16 = .ok (.dup, 1) := by decide +kernel
theorem dX7_back_17 : decode cX7_back 17 = .ok (.getfield 110, 3) := by decide +kernel
theorem dX7_back_20 : decode cX7_back 20 = .ok (.iload_n 1, 1) := by decide +kernel
theorem dX7_back_21 : decode cX7_back 21 = .ok (.isub, 1) := by decide +kernel
theorem dX7_back_22 : decode cX7_back 22 = .ok (.putfield 110, 3) := by decide +kernel
theorem dX7_back_25 : decode cX7_back 25 = .ok (.aload_n 0, 1) := by decide +kernel
theorem dX7_back_26 : decode cX7_back 26 = .ok (.getfield 110, 3) := by decide +kernel
theorem dX7_back_29 : decode cX7_back 29 = .ok (.ireturn, 1) := by decide +kernel
set_option maxRecDepth 20000 in
theorem ggX7_areSo_X7_bearsOf : GoodIn wsX7_areSo wsX7_bearsOf := goodIn_r _ [9, 10, 11, 12, 13, 8, 14, 15, 16, 17, 18, 19, 20, 21, 22, 23, 24, 25, 26, 27, 28, 29, 30, 31, 32, 33, 34, 35, 36, 37, 38, 39, 40, 41, 42, 43] (by decide +kernel) (by decide +kernel)
set_option maxRecDepth 20000 in
theorem gX7_areSo_X7_bearsOf : GoodIn wsX7_areSo (wsV RX7 134 RX7 yX7_bearsOf wsX7_bearsOf) := goodIn_app (goodIn_of _ (by decide +kernel)) ggX7_areSo_X7_bearsOf
theorem dX7_areSo_0 : decode cX7_areSo 0 = .ok (.iconst 0, 1) := by decide +kernel
theorem dX7_areSo_1 : decode cX7_areSo 1 = .ok (.istore_n 1, 1) := by decide +kernel
theorem dX7_areSo_2 : decode cX7_areSo 2 = .ok (.iload_n 1, 1) := by decide +kernel
theorem dX7_areSo_3 : decode cX7_areSo 3 = .ok (.aload_n 0, 1) := by decide +kernel
theorem dX7_areSo_4 : decode cX7_areSo 4 = .ok (.getfield 110, 3) := by decide +kernel
theorem dX7_areSo_7 : decode cX7_areSo 7 = .ok (.if_icmp .ge 46, 3) := by decide +kernel
theorem dX7_areSo_10 : decode cX7_areSo 10 = .ok (.aload_n 0, 1) := by decide +kernel
theorem dX7_areSo_11 : decode cX7_areSo 11 = .ok (.getfield 49, 3) := by decide +kernel
theorem dX7_areSo_14 : decode cX7_areSo 14 = .ok (.iload_n 1, 1) := by decide +kernel
theorem dX7_areSo_15 : decode cX7_areSo 15 = .ok (.iaload, 1) := by decide +kernel
theorem dX7_areSo_16 : decode cX7_areSo 16 = .ok (.aload_n 0, 1) := by decide +kernel
theorem dX7_areSo_17 : decode cX7_areSo 17 = .ok (.aload_n 0, 1) := by decide +kernel
theorem dX7_areSo_18 : decode cX7_areSo 18 = .ok (.getfield 46, 3) := by decide +kernel
theorem dX7_areSo_21 : decode cX7_areSo 21 = .ok (.iload_n 1, 1) := by decide +kernel
theorem dX7_areSo_22 : decode cX7_areSo 22 = .ok (.iaload, 1) := by decide +kernel
theorem dX7_areSo_23 : decode cX7_areSo 23 = .ok (.invokevirtual 134, 3) := by decide +kernel
theorem dX7_areSo_26 : decode cX7_areSo 26 = .ok (.if_icmp .le 7, 3) := by decide +kernel
theorem dX7_areSo_29 : decode cX7_areSo 29 = .ok (.iconst 1, 1) := by decide +kernel
theorem dX7_areSo_30 : decode cX7_areSo 30 = .ok (.goto 4, 3) := by decide +kernel
theorem dX7_areSo_33 : decode cX7_areSo 33 = .ok (.iconst 0, 1) := by decide +kernel
theorem dX7_areSo_34 : decode cX7_areSo 34 = .ok (.istore_n 2, 1) := by decide +kernel
theorem dX7_areSo_35 : decode cX7_areSo 35 = .ok (.iload_n 2, 1) := by decide +kernel
theorem dX7_areSo_36 : decode cX7_areSo 36 = .ok (.aload_n 0, 1) := by decide +kernel
theorem dX7_areSo_37 : decode cX7_areSo 37 = .ok (.getfield 52, 3) := by decide +kernel
theorem dX7_areSo_40 : decode cX7_areSo 40 = .ok (.iload_n 1, 1) := by decide +kernel
theorem dX7_areSo_41 : decode cX7_areSo 41 = .ok (.iaload, 1) := by decide +kernel
theorem dX7_areSo_42 : decode cX7_areSo 42 = .ok (.if_icmp .eq 5, 3) := by decide +kernel
theorem dX7_areSo_45 : decode cX7_areSo 45 = .ok (.iconst 0, 1) := by decide +kernel
theorem dX7_areSo_46 : decode cX7_areSo 46 = .ok (.ireturn, 1) := by decide +kernel
theorem dX7_areSo_47 : decode cX7_areSo 47 = .ok (.iinc 1 1, 3) := by decide +kernel
theorem dX7_areSo_50 : decode cX7_areSo 50 = .ok (.goto (-48), 3) := by decide +kernel
theorem dX7_areSo_53 : decode cX7_areSo 53 = .ok (.iconst 1, 1) := by decide +kernel
theorem dX7_areSo_54 : decode cX7_areSo 54 = .ok (.ireturn, 1) := by decide +kernel
set_option maxRecDepth 20000 in
theorem ggX7_strengths_X7_isGallery : GoodIn wsX7_strengths wsX7_isGallery := goodIn_r _ [6, 7, 24, 25, 26, 27, 28, 29, 30, 31, 32, 33, 34, 35, 36, 37, 38, 39, 40, 41, 42, 43, 44, 45, 46, 47, 48, 49, 50, 51, 52] (by decide +kernel) (by decide +kernel)
set_option maxRecDepth 20000 in
theorem gX7_strengths_X7_isGallery : GoodIn wsX7_strengths (wsV RX7 131 RX7 yX7_isGallery wsX7_isGallery) := goodIn_app (goodIn_of _ (by decide +kernel)) ggX7_strengths_X7_isGallery
set_option maxRecDepth 20000 in
theorem ggX7_strengths_X7_areSo : GoodIn wsX7_strengths wsX7_areSo := goodIn_r _ [11, 12, 13, 14, 15, 16, 17, 18, 5, 19, 20, 1, 21, 22, 23, 24, 25, 26, 27, 28, 29, 30, 31, 32, 33, 34, 35, 36, 37, 38, 39, 40, 41, 42, 43, 44, 45, 46, 47, 48, 49, 50, 51, 52] (by decide +kernel) (by decide +kernel)
set_option maxRecDepth 20000 in
theorem gX7_strengths_X7_areSo : GoodIn wsX7_strengths (wsV RX7 206 RX7 yX7_areSo wsX7_areSo) := goodIn_app (goodIn_of _ (by decide +kernel)) ggX7_strengths_X7_areSo
theorem dX7_strengths_0 : decode cX7_strengths 0 = .ok (.aload_n 0, 1) := by decide +kernel
theorem dX7_strengths_1 : decode cX7_strengths 1 = .ok (.iload_n 1, 1) := by decide +kernel
theorem dX7_strengths_2 : decode cX7_strengths 2 = .ok (.invokevirtual 131, 3) := by decide +kernel
theorem dX7_strengths_5 : decode cX7_strengths 5 = .ok (.ifCond .ne 5, 3) := by decide +kernel
theorem dX7_strengths_8 : decode cX7_strengths 8 = .ok (.iconst (-1), 1) := by decide +kernel
theorem dX7_strengths_9 : decode cX7_strengths 9 = .ok (.ireturn, 1) := by decide +kernel
theorem dX7_strengths_10 : decode cX7_strengths 10 = .ok (.aload_n 0, 1) := by decide +kernel
theorem dX7_strengths_11 : decode cX7_strengths 11 = .ok (.getfield 28, 3) := by decide +kernel
theorem dX7_strengths_14 : decode cX7_strengths 14 = .ok (.iload_n 1, 1) := by decide +kernel
theorem dX7_strengths_15 : decode cX7_strengths 15 = .ok (.iaload, 1) := by decide +kernel
theorem dX7_strengths_16 : decode cX7_strengths 16 = .ok (.istore_n 2, 1) := by decide +kernel
theorem dX7_strengths_17 : decode cX7_strengths 17 = .ok (.iconst 0, 1) := by decide +kernel
theorem dX7_strengths_18 : decode cX7_strengths 18 = .ok (.istore_n 3, 1) := by decide +kernel
theorem dX7_strengths_19 : decode cX7_strengths 19 = .ok (.iconst 1, 1) := by decide +kernel
theorem dX7_strengths_20 : decode cX7_strengths 20 = .ok (.istore 4, 2) := by decide +kernel
theorem dX7_strengths_22 : decode cX7_strengths 22 = .ok (.iload 4, 2) := by decide +kernel
theorem dX7_strengths_24 : decode cX7_strengths 24 = .ok (.bipush 9, 2) := by decide +kernel
theorem dX7_strengths_26 : decode cX7_strengths 26 = .ok (.if_icmp .gt 35, 3) := by decide +kernel
theorem dX7_strengths_29 : decode cX7_strengths 29 = .ok (.aload_n 0, 1) := by decide +kernel
theorem dX7_strengths_30 : decode cX7_strengths 30 = .ok (.getfield 28, 3) := by decide +kernel
theorem dX7_strengths_33 : decode cX7_strengths 33 = .ok (.iload_n 1, 1) := by decide +kernel
theorem dX7_strengths_34 : decode cX7_strengths 34 = .ok (.iload 4, 2) := by decide +kernel
theorem dX7_strengths_36 : decode cX7_strengths 36 = .ok (.iastore, 1) := by decide +kernel
theorem dX7_strengths_37 : decode cX7_strengths 37 = .ok (.iload_n 3, 1) := by decide +kernel
theorem dX7_strengths_38 : decode cX7_strengths 38 = .ok (.aload_n 0, 1) := by decide +kernel
theorem dX7_strengths_39 : decode cX7_strengths 39 = .ok (.invokevirtual 206, 3) := by decide +kernel
theorem dX7_strengths_42 : decode cX7_strengths 42 = .ok (.ifCond .eq 10, 3) := by decide +kernel
theorem dX7_strengths_45 : decode cX7_strengths 45 = .ok (.iconst 1, 1) := by decide +kernel
theorem dX7_strengths_46 : decode cX7_strengths 46 = .ok (.iload 4, 2) := by decide +kernel
theorem dX7_strengths_48 : decode cX7_strengths 48 = .ok (.ishl, 1) := by decide +kernel
theorem dX7_strengths_49 : decode cX7_strengths 49 = .ok (.goto 4, 3) := by decide +kernel
theorem dX7_strengths_52 : decode cX7_strengths 52 = .ok (.iconst 0, 1) := by decide +kernel
theorem dX7_strengths_53 : decode cX7_strengths 53 = .ok (.ior, 1) := by decide +kernel
theorem dX7_strengths_54 : decode cX7_strengths 54 = .ok (.istore_n 3, 1) := by decide +kernel
theorem dX7_strengths_55 : decode cX7_strengths 55 = .ok (.iinc 4 1, 3) := by decide +kernel
theorem dX7_strengths_58 : decode cX7_strengths 58 = .ok (.goto (-36), 3) := by decide +kernel
theorem dX7_strengths_61 : decode cX7_strengths 61 = .ok (.aload_n 0, 1) := by decide +kernel
theorem dX7_strengths_62 : decode cX7_strengths 62 = .ok (.getfield 28, 3) := by decide +kernel
theorem dX7_strengths_65 : decode cX7_strengths 65 = .ok (.iload_n 1, 1) := by decide +kernel
theorem dX7_strengths_66 : decode cX7_strengths 66 = .ok (.iload_n 2, 1) := by decide +kernel
theorem dX7_strengths_67 : decode cX7_strengths 67 = .ok (.iastore, 1) := by decide +kernel
theorem dX7_strengths_68 : decode cX7_strengths 68 = .ok (.iload_n 3, 1) := by decide +kernel
theorem dX7_strengths_69 : decode cX7_strengths 69 = .ok (.ireturn, 1) := by decide +kernel
set_option maxRecDepth 20000 in
theorem ggX7_kinds_X7_isGallery : GoodIn wsX7_kinds wsX7_isGallery := goodIn_r _ [6, 7, 24, 25, 26, 27, 28, 29, 30, 31, 32, 33, 34, 35, 36, 37, 38, 39, 40, 41, 42, 43, 44, 45, 46, 47, 48, 49, 50, 51, 52] (by decide +kernel) (by decide +kernel)
set_option maxRecDepth 20000 in
theorem gX7_kinds_X7_isGallery : GoodIn wsX7_kinds (wsV RX7 131 RX7 yX7_isGallery wsX7_isGallery) := goodIn_app (goodIn_of _ (by decide +kernel)) ggX7_kinds_X7_isGallery
set_option maxRecDepth 20000 in
theorem ggX7_kinds_X7_areSo : GoodIn wsX7_kinds wsX7_areSo := goodIn_r _ [11, 12, 13, 14, 15, 16, 17, 18, 5, 19, 1, 20, 21, 22, 23, 24, 25, 26, 27, 28, 29, 30, 31, 32, 33, 34, 35, 36, 37, 38, 39, 40, 41, 42, 43, 44, 45, 46, 47, 48, 49, 50, 51, 52] (by decide +kernel) (by decide +kernel)
set_option maxRecDepth 20000 in
theorem gX7_kinds_X7_areSo : GoodIn wsX7_kinds (wsV RX7 206 RX7 yX7_areSo wsX7_areSo) := goodIn_app (goodIn_of _ (by decide +kernel)) ggX7_kinds_X7_areSo
theorem dX7_kinds_0 : decode cX7_kinds 0 = .ok (.aload_n 0, 1) := by decide +kernel
theorem dX7_kinds_1 : decode cX7_kinds 1 = .ok (.iload_n 1, 1) := by decide +kernel
theorem dX7_kinds_2 : decode cX7_kinds 2 = .ok (.invokevirtual 131, 3) := by decide +kernel
theorem dX7_kinds_5 : decode cX7_kinds 5 = .ok (.ifCond .ne 5, 3) := by decide +kernel
theorem dX7_kinds_8 : decode cX7_kinds 8 = .ok (.iconst (-1), 1) := by decide +kernel
theorem dX7_kinds_9 : decode cX7_kinds 9 = .ok (.ireturn, 1) := by decide +kernel
theorem dX7_kinds_10 : decode cX7_kinds 10 = .ok (.aload_n 0, 1) := by decide +kernel
theorem dX7_kinds_11 : decode cX7_kinds 11 = .ok (.getfield 22, 3) := by decide +kernel
theorem dX7_kinds_14 : decode cX7_kinds 14 = .ok (.iload_n 1, 1) := by decide +kernel
theorem dX7_kinds_15 : decode cX7_kinds 15 = .ok (.iaload, 1) := by decide +kernel
theorem dX7_kinds_16 : decode cX7_kinds 16 = .ok (.istore_n 2, 1) := by decide +kernel
theorem dX7_kinds_17 : decode cX7_kinds 17 = .ok (.iconst 0, 1) := by decide +kernel
theorem dX7_kinds_18 : decode cX7_kinds 18 = .ok (.istore_n 3, 1) := by decide +kernel
theorem dX7_kinds_19 : decode cX7_kinds 19 = .ok (.iconst 0, 1) := by decide +kernel
theorem dX7_kinds_20 : decode cX7_kinds 20 = .ok (.istore 4, 2) := by decide +kernel
theorem dX7_kinds_22 : decode cX7_kinds 22 = .ok (.iload 4, 2) := by decide +kernel
theorem dX7_kinds_24 : decode cX7_kinds 24 = .ok (.iconst 3, 1) := by decide +kernel
theorem dX7_kinds_25 : decode cX7_kinds 25 = .ok (.if_icmp .ge 35, 3) := by decide +kernel
theorem dX7_kinds_28 : decode cX7_kinds 28 = .ok (.aload_n 0, 1) := by decide +kernel
theorem dX7_kinds_29 : decode cX7_kinds 29 = .ok (.getfield 22, 3) := by decide +kernel
theorem dX7_kinds_32 : decode cX7_kinds 32 = .ok (.iload_n 1, 1) := by decide +kernel
theorem dX7_kinds_33 : decode cX7_kinds 33 = .ok (.iload 4, 2) := by decide +kernel
theorem dX7_kinds_35 : decode cX7_kinds 35 = .ok (.iastore, 1) := by decide +kernel
theorem dX7_kinds_36 : decode cX7_kinds 36 = .ok (.iload_n 3, 1) := by decide +kernel
theorem dX7_kinds_37 : decode cX7_kinds 37 = .ok (.aload_n 0, 1) := by decide +kernel
theorem dX7_kinds_38 : decode cX7_kinds 38 = .ok (.invokevirtual 206, 3) := by decide +kernel
theorem dX7_kinds_41 : decode cX7_kinds 41 = .ok (.ifCond .eq 10, 3) := by decide +kernel
theorem dX7_kinds_44 : decode cX7_kinds 44 = .ok (.iconst 1, 1) := by decide +kernel
theorem dX7_kinds_45 : decode cX7_kinds 45 = .ok (.iload 4, 2) := by decide +kernel
theorem dX7_kinds_47 : decode cX7_kinds 47 = .ok (.ishl, 1) := by decide +kernel
theorem dX7_kinds_48 : decode cX7_kinds 48 = .ok (.goto 4, 3) := by decide +kernel
theorem dX7_kinds_51 : decode cX7_kinds 51 = .ok (.iconst 0, 1) := by decide +kernel
theorem dX7_kinds_52 : decode cX7_kinds 52 = .ok (.ior, 1) := by decide +kernel
theorem dX7_kinds_53 : decode cX7_kinds 53 = .ok (.istore_n 3, 1) := by decide +kernel
theorem dX7_kinds_54 : decode cX7_kinds 54 = .ok (.iinc 4 1, 3) := by decide +kernel
theorem dX7_kinds_57 : decode cX7_kinds 57 = .ok (.goto (-35), 3) := by decide +kernel
theorem dX7_kinds_60 : decode cX7_kinds 60 = .ok (.aload_n 0, 1) := by decide +kernel
theorem dX7_kinds_61 : decode cX7_kinds 61 = .ok (.getfield 22, 3) := by decide +kernel
theorem dX7_kinds_64 : decode cX7_kinds 64 = .ok (.iload_n 1, 1) := by decide +kernel
theorem dX7_kinds_65 : decode cX7_kinds 65 = .ok (.iload_n 2, 1) := by decide +kernel
theorem dX7_kinds_66 : decode cX7_kinds 66 = .ok (.iastore, 1) := by decide +kernel
theorem dX7_kinds_67 : decode cX7_kinds 67 = .ok (.iload_n 3, 1) := by decide +kernel
theorem dX7_kinds_68 : decode cX7_kinds 68 = .ok (.ireturn, 1) := by decide +kernel
theorem dX7_inLeastTerms_0 : decode cX7_inLeastTerms 0 = .ok (.lload_n 0, 1) := by decide +kernel
theorem dX7_inLeastTerms_1 : decode cX7_inLeastTerms 1 = .ok (.lstore 5, 2) := by decide +kernel
theorem dX7_inLeastTerms_3 : decode cX7_inLeastTerms 3 = .ok (.lload_n 2, 1) := by decide +kernel
theorem dX7_inLeastTerms_4 : decode cX7_inLeastTerms 4 = .ok (.lstore 7, 2) := by decide +kernel
theorem dX7_inLeastTerms_6 : decode cX7_inLeastTerms 6 = .ok (.lload 7, 2) := by decide +kernel
theorem dX7_inLeastTerms_8 : decode cX7_inLeastTerms 8 = .ok (.lconst 0, 1) := by decide +kernel
theorem dX7_inLeastTerms_9 : decode cX7_inLeastTerms 9 = .ok (.lcmp, 1) := by decide +kernel
theorem dX7_inLeastTerms_10 : decode cX7_inLeastTerms 10 = .ok (.ifCond .eq 21, 3) := by decide +kernel
theorem dX7_inLeastTerms_13 : decode cX7_inLeastTerms 13 = .ok (.lload 5, 2) := by decide +kernel
theorem dX7_inLeastTerms_15 : decode cX7_inLeastTerms 15 = .ok (.lload 7, 2) := by decide +kernel
theorem dX7_inLeastTerms_17 : decode cX7_inLeastTerms 17 = .ok (.lrem, 1) := by decide +kernel
theorem dX7_inLeastTerms_18 : decode cX7_inLeastTerms 18 = .ok (.lstore 9, 2) := by decide +kernel
theorem dX7_inLeastTerms_20 : decode cX7_inLeastTerms 20 = .ok (.lload 7, 2) := by decide +kernel
theorem dX7_inLeastTerms_22 : decode cX7_inLeastTerms 22 = .ok (.lstore 5, 2) := by decide +kernel
theorem dX7_inLeastTerms_24 : decode cX7_inLeastTerms 24 = .ok (.lload 9, 2) := by decide +kernel
theorem dX7_inLeastTerms_26 : decode cX7_inLeastTerms 26 = .ok (.lstore 7, 2) := by decide +kernel
theorem dX7_inLeastTerms_28 : decode cX7_inLeastTerms 28 = .ok (.goto (-22), 3) := by decide +kernel
theorem dX7_inLeastTerms_31 : decode cX7_inLeastTerms 31 = .ok (.iload 4, 2) := by decide +kernel
theorem dX7_inLeastTerms_33 : decode cX7_inLeastTerms 33 = .ok (.ifCond .ne 10, 3) := by decide +kernel
theorem dX7_inLeastTerms_36 : decode cX7_inLeastTerms 36 = .ok (.lload_n 0, 1) := by decide +kernel
theorem dX7_inLeastTerms_37 : decode cX7_inLeastTerms 37 = .ok (.lload 5, 2) := by decide +kernel
theorem dX7_inLeastTerms_39 : decode cX7_inLeastTerms 39 = .ok (.ldiv, 1) := by decide +kernel
theorem dX7_inLeastTerms_40 : decode cX7_inLeastTerms 40 = .ok (.goto 7, 3) := by decide +kernel
theorem dX7_inLeastTerms_43 : decode cX7_inLeastTerms 43 = .ok (.lload_n 2, 1) := by decide +kernel
theorem dX7_inLeastTerms_44 : decode cX7_inLeastTerms 44 = .ok (.lload 5, 2) := by decide +kernel
theorem dX7_inLeastTerms_46 : decode cX7_inLeastTerms 46 = .ok (.ldiv, 1) := by decide +kernel
theorem dX7_inLeastTerms_47 : decode cX7_inLeastTerms 47 = .ok (.lreturn, 1) := by decide +kernel
set_option maxRecDepth 20000 in
theorem ggX7_odds_X7_isGallery : GoodIn wsX7_odds wsX7_isGallery := goodIn_r _ [9, 2, 57, 58, 59, 60, 61, 62, 63, 64, 65, 66, 67, 68, 69, 70, 71, 72, 73, 74, 75, 76, 77, 78, 79, 80, 81, 82, 83, 84, 85] (by decide +kernel) (by decide +kernel)
set_option maxRecDepth 20000 in
theorem gX7_odds_X7_isGallery : GoodIn wsX7_odds (wsV RX7 131 RX7 yX7_isGallery wsX7_isGallery) := goodIn_app (goodIn_of _ (by decide +kernel)) ggX7_odds_X7_isGallery
set_option maxRecDepth 20000 in
theorem ggX7_odds_X7_within : GoodIn wsX7_odds wsX7_within := goodIn_r _ [12] (by decide +kernel) (by decide +kernel)
set_option maxRecDepth 20000 in
theorem gX7_odds_X7_within : GoodIn wsX7_odds (va_wsS RX7 61 yX7_within wsX7_within) := goodIn_app (goodIn_of _ (by decide +kernel)) ggX7_odds_X7_within
set_option maxRecDepth 20000 in
theorem ggX7_odds_X7_keep : GoodIn wsX7_odds wsX7_keep := goodIn_r _ [16, 4, 17, 2, 18, 19, 57, 58, 59, 60, 61, 62, 63, 64, 65, 66, 67, 68, 69, 70, 71, 72, 73, 74, 75, 76, 77, 78, 79, 80, 81, 82, 83, 84, 85] (by decide +kernel) (by decide +kernel)
set_option maxRecDepth 20000 in
theorem gX7_odds_X7_keep : GoodIn wsX7_odds (wsV RX7 179 RX7 yX7_keep wsX7_keep) := goodIn_app (goodIn_of _ (by decide +kernel)) ggX7_odds_X7_keep
set_option maxRecDepth 20000 in
theorem ggX7_odds_X7_breathe : GoodIn wsX7_odds wsX7_breathe := goodIn_r _ [23, 24, 25, 26, 8, 27, 19, 28, 29, 30, 31, 32, 2, 33, 34, 35, 36, 37, 38, 39, 40, 4, 41, 42, 43, 44, 45, 46, 47, 48, 49, 57, 58, 59, 60, 61, 62, 63, 64, 65, 66, 67, 68, 69, 70, 71, 72, 73, 74, 75, 76, 77, 78, 79, 80, 81, 82, 83, 84, 85] (by decide +kernel) (by decide +kernel)
set_option maxRecDepth 20000 in
theorem gX7_odds_X7_breathe : GoodIn wsX7_odds (wsV RX7 157 RX7 yX7_breathe wsX7_breathe) := goodIn_app (goodIn_of _ (by decide +kernel)) ggX7_odds_X7_breathe
set_option maxRecDepth 20000 in
theorem ggX7_odds_X7_putBack : GoodIn wsX7_odds wsX7_putBack := goodIn_r _ [53, 17, 4, 2, 19, 18, 57, 58, 59, 60, 61, 62, 63, 64, 65, 66, 67, 68, 69, 70, 71, 72, 73, 74, 75, 76, 77, 78, 79, 80, 81, 82, 83, 84, 85] (by decide +kernel) (by decide +kernel)
set_option maxRecDepth 20000 in
theorem gX7_odds_X7_putBack : GoodIn wsX7_odds (wsV RX7 188 RX7 yX7_putBack wsX7_putBack) := goodIn_app (goodIn_of _ (by decide +kernel)) ggX7_odds_X7_putBack
set_option maxRecDepth 20000 in
theorem ggX7_odds_X7_inLeastTerms : GoodIn wsX7_odds wsX7_inLeastTerms := goodIn_r _ [56] (by decide +kernel) (by decide +kernel)
set_option maxRecDepth 20000 in
theorem gX7_odds_X7_inLeastTerms : GoodIn wsX7_odds (va_wsS RX7 210 yX7_inLeastTerms wsX7_inLeastTerms) := goodIn_app (goodIn_of _ (by decide +kernel)) ggX7_odds_X7_inLeastTerms
theorem dX7_odds_0 : decode cX7_odds 0 = .ok (.aload_n 0, 1) := by decide +kernel
theorem dX7_odds_1 : decode cX7_odds 1 = .ok (.iload_n 1, 1) := by decide +kernel
theorem dX7_odds_2 : decode cX7_odds 2 = .ok (.invokevirtual 131, 3) := by decide +kernel
theorem dX7_odds_5 : decode cX7_odds 5 = .ok (.ifCond .eq 12, 3) := by decide +kernel
theorem dX7_odds_8 : decode cX7_odds 8 = .ok (.iload_n 2, 1) := by decide +kernel
theorem dX7_odds_9 : decode cX7_odds 9 = .ok (.iconst 0, 1) := by decide +kernel
theorem dX7_odds_10 : decode cX7_odds 10 = .ok (.iconst 1, 1) := by decide +kernel
theorem dX7_odds_11 : decode cX7_odds 11 = .ok (.invokestatic 61, 3) := by decide +kernel
theorem dX7_odds_14 : decode cX7_odds 14 = .ok (.ifCond .ne 7, 3) := by decide +kernel
theorem dX7_odds_17 : decode cX7_odds 17 = .ok (.ldc2_w 59, 3) := by decide +kernel
theorem dX7_odds_20 : decode cX7_odds 20 = .ok (.lreturn, 1) := by decide +kernel
theorem dX7_odds_21 : decode cX7_odds 21 = .ok (.iconst 0, 1) := by decide +kernel
theorem dX7_odds_22 : decode cX7_odds 22 = .ok (.istore_n 3, 1) := by decide +kernel
theorem dX7_odds_23 : decode cX7_odds 23 = .ok (.iconst 0, 1) := by decide +kernel
theorem dX7_odds_24 : decode cX7_odds 24 = .ok (.istore 4, 2) := by decide +kernel
theorem dX7_odds_26 : decode cX7_odds 26 = .ok (.iload 4, 2) := by decide +kernel
theorem dX7_odds_28 : decode cX7_odds 28 = .ok (.aload_n 0, 1) := by decide +kernel
theorem dX7_odds_29 : decode cX7_odds 29 = .ok (.getfield 65, 3) := by decide +kernel
theorem dX7_odds_32 : decode cX7_odds 32 = .ok (.aload_n 0, 1) := by decide +kernel
theorem dX7_odds_33 : decode cX7_odds 33 = .ok (.getfield 68, 3) := by decide +kernel
theorem dX7_odds_36 : decode cX7_odds 36 = .ok (.imul, 1) := by decide +kernel
theorem dX7_odds_37 : decode cX7_odds 37 = .ok (.if_icmp .ge 47, 3) := by decide +kernel
theorem dX7_odds_40 : decode cX7_odds 40 = .ok (.aload_n 0, 1) := by decide +kernel
theorem dX7_odds_41 : decode cX7_odds 41 = .ok (.invokevirtual 179, 3) := by decide +kernel
theorem dX7_odds_44 : decode cX7_odds 44 = .ok (.aload_n 0, 1) := by decide +kernel
theorem dX7_odds_45 : decode cX7_odds 45 = .ok (.iload 4, 2) := by decide +kernel
theorem dX7_odds_47 : decode cX7_odds 47 = .ok (.aload_n 0, 1) := by decide +kernel
theorem dX7_odds_48 : decode cX7_odds 48 = .ok (.getfield 68, 3) := by decide +kernel
theorem dX7_odds_51 : decode cX7_odds 51 = .ok (.idiv, 1) := by decide +kernel
theorem dX7_odds_52 : decode cX7_odds 52 = .ok (.iload 4, 2) := by decide +kernel
theorem dX7_odds_54 : decode cX7_odds 54 = .ok (.aload_n 0, 1) := by decide +kernel
theorem dX7_odds_55 : decode cX7_odds 55 = .ok (.getfield 68, 3) := by decide +kernel
theorem dX7_odds_58 : decode cX7_odds 58 = .ok (.irem, 1) := by decide +kernel
theorem dX7_odds_59 : decode cX7_odds 59 = .ok (.invokevirtual 157, 3) := by decide +kernel
theorem dX7_odds_62 : decode cX7_odds 62 = .ok (.pop, 1) := by decide +kernel
theorem dX7_odds_63 : decode cX7_odds 63 = .ok (.iload_n 3, 1) := by decide +kernel
theorem dX7_odds_64 : decode cX7_odds 64 = .ok (.aload_n 0, 1) := by decide +kernel
theorem dX7_odds_65 : decode cX7_odds 65 = .ok (.getfield 107, 3) := by decide +kernel
theorem dX7_odds_68 : decode cX7_odds 68 = .ok (.iload_n 1, 1) := by decide +kernel
theorem dX7_odds_69 : decode cX7_odds 69 = .ok (.ishr, 1) := by decide +kernel
theorem dX7_odds_70 : decode cX7_odds 70 = .ok (.iconst 1, 1) := by decide +kernel
theorem dX7_odds_71 : decode cX7_odds 71 = .ok (.iand, 1) := by decide +kernel
theorem dX7_odds_72 : decode cX7_odds 72 = .ok (.iadd, 1) := by decide +kernel
theorem dX7_odds_73 : decode cX7_odds 73 = .ok (.istore_n 3, 1) := by decide +kernel
theorem dX7_odds_74 : decode cX7_odds 74 = .ok (.aload_n 0, 1) := by decide +kernel
theorem dX7_odds_75 : decode cX7_odds 75 = .ok (.invokevirtual 188, 3) := by decide +kernel
theorem dX7_odds_78 : decode cX7_odds 78 = .ok (.iinc 4 1, 3) := by decide +kernel
theorem dX7_odds_81 : decode cX7_odds 81 = .ok (.goto (-55), 3) := by decide +kernel
theorem dX7_odds_84 : decode cX7_odds 84 = .ok (.iload_n 3, 1) := by decide +kernel
theorem dX7_odds_85 : decode cX7_odds 85 = .ok (.i2l, 1) := by decide +kernel
theorem dX7_odds_86 : decode cX7_odds 86 = .ok (.aload_n 0, 1) := by decide +kernel
theorem dX7_odds_87 : decode cX7_odds 87 = .ok (.getfield 65, 3) := by decide +kernel
theorem dX7_odds_90 : decode cX7_odds 90 = .ok (.aload_n 0, 1) := by decide +kernel
theorem dX7_odds_91 : decode cX7_odds 91 = .ok (.getfield 68, 3) := by decide +kernel
theorem dX7_odds_94 : decode cX7_odds 94 = .ok (.imul, 1) := by decide +kernel
theorem dX7_odds_95 : decode cX7_odds 95 = .ok (.i2l, 1) := by decide +kernel
theorem dX7_odds_96 : decode cX7_odds 96 = .ok (.iload_n 2, 1) := by decide +kernel
theorem dX7_odds_97 : decode cX7_odds 97 = .ok (.invokestatic 210, 3) := by decide +kernel
theorem dX7_odds_100 : decode cX7_odds 100 = .ok (.lreturn, 1) := by decide +kernel
set_option maxRecDepth 20000 in
theorem ggX7_sheet_X7_isSheet : GoodIn wsX7_sheet wsX7_isSheet := goodIn_r _ [8, 9, 10, 7, 11] (by decide +kernel) (by decide +kernel)
set_option maxRecDepth 20000 in
theorem gX7_sheet_X7_isSheet : GoodIn wsX7_sheet (va_wsS RX7 74 yX7_isSheet wsX7_isSheet) := goodIn_app (goodIn_of _ (by decide +kernel)) ggX7_sheet_X7_isSheet
set_option maxRecDepth 20000 in
theorem ggX7_sheet_X7_isSort : GoodIn wsX7_sheet wsX7_isSort := goodIn_r _ [14, 9, 10, 7, 11] (by decide +kernel) (by decide +kernel)
set_option maxRecDepth 20000 in
theorem gX7_sheet_X7_isSort : GoodIn wsX7_sheet (va_wsS RX7 78 yX7_isSort wsX7_isSort) := goodIn_app (goodIn_of _ (by decide +kernel)) ggX7_sheet_X7_isSort
set_option maxRecDepth 20000 in
theorem ggX7_sheet_X7_fails : GoodIn wsX7_sheet wsX7_fails := goodIn_r _ [18, 1, 19, 20, 21, 22, 23, 24, 25, 26, 27, 28, 29, 30, 31, 32, 33, 34, 35, 36, 37, 38, 39, 40, 41, 42, 43, 44, 45, 46, 47] (by decide +kernel) (by decide +kernel)
set_option maxRecDepth 20000 in
theorem gX7_sheet_X7_fails : GoodIn wsX7_sheet (wsV RX7 85 RX7 yX7_fails wsX7_fails) := goodIn_app (goodIn_of _ (by decide +kernel)) ggX7_sheet_X7_fails
theorem dX7_sheet_0 : decode cX7_sheet 0 = .ok (.aload_n 0, 1) := by decide +kernel
theorem dX7_sheet_1 : decode cX7_sheet 1 = .ok (.iconst 0, 1) := by decide +kernel
theorem dX7_sheet_2 : decode cX7_sheet 2 = .ok (.putfield 55, 3) := by decide +kernel
theorem dX7_sheet_5 : decode cX7_sheet 5 = .ok (.iload_n 1, 1) := by decide +kernel
theorem dX7_sheet_6 : decode cX7_sheet 6 = .ok (.invokestatic 74, 3) := by decide +kernel
theorem dX7_sheet_9 : decode cX7_sheet 9 = .ok (.ifCond .ne 5, 3) := by decide +kernel
theorem dX7_sheet_12 : decode cX7_sheet 12 = .ok (.iconst (-1), 1) := by decide +kernel
theorem dX7_sheet_13 : decode cX7_sheet 13 = .ok (.ireturn, 1) := by decide +kernel
theorem dX7_sheet_14 : decode cX7_sheet 14 = .ok (.iload_n 2, 1) := by decide +kernel
theorem dX7_sheet_15 : decode cX7_sheet 15 = .ok (.invokestatic 78, 3) := by decide +kernel
theorem dX7_sheet_18 : decode cX7_sheet 18 = .ok (.ifCond .eq 9, 3) := by decide +kernel
theorem dX7_sheet_21 : decode cX7_sheet 21 = .ok (.iload_n 3, 1) := by decide +kernel
theorem dX7_sheet_22 : decode cX7_sheet 22 = .ok (.bipush 60, 2) := by decide +kernel
theorem dX7_sheet_24 : decode cX7_sheet 24 = .ok (.if_icmp .le 6, 3) := by decide +kernel
theorem dX7_sheet_27 : decode cX7_sheet 27 = .ok (.bipush (-2), 2) := by decide +kernel
theorem dX7_sheet_29 : decode cX7_sheet 29 = .ok (.ireturn, 1) := by decide +kernel
theorem dX7_sheet_30 : decode cX7_sheet 30 = .ok (.iload_n 3, 1) := by decide +kernel
theorem dX7_sheet_31 : decode cX7_sheet 31 = .ok (.ifCond .ge 9, 3) := by decide +kernel
theorem dX7_sheet_34 : decode cX7_sheet 34 = .ok (.aload_n 0, 1) := by decide +kernel
theorem dX7_sheet_35 : decode cX7_sheet 35 = .ok (.iconst 4, 1) := by decide +kernel
theorem dX7_sheet_36 : decode cX7_sheet 36 = .ok (.invokevirtual 85, 3) := by decide +kernel
theorem dX7_sheet_39 : decode cX7_sheet 39 = .ok (.ireturn, 1) := by decide +kernel
theorem dX7_sheet_40 : decode cX7_sheet 40 = .ok (.aload_n 0, 1) := by decide +kernel
theorem dX7_sheet_41 : decode cX7_sheet 41 = .ok (.getfield 9, 3) := by decide +kernel
theorem dX7_sheet_44 : decode cX7_sheet 44 = .ok (.iload_n 1, 1) := by decide +kernel
theorem dX7_sheet_45 : decode cX7_sheet 45 = .ok (.iload_n 2, 1) := by decide +kernel
theorem dX7_sheet_46 : decode cX7_sheet 46 = .ok (.iastore, 1) := by decide +kernel
theorem dX7_sheet_47 : decode cX7_sheet 47 = .ok (.aload_n 0, 1) := by decide +kernel
theorem dX7_sheet_48 : decode cX7_sheet 48 = .ok (.getfield 13, 3) := by decide +kernel
theorem dX7_sheet_51 : decode cX7_sheet 51 = .ok (.iload_n 1, 1) := by decide +kernel
theorem dX7_sheet_52 : decode cX7_sheet 52 = .ok (.iload_n 3, 1) := by decide +kernel
theorem dX7_sheet_53 : decode cX7_sheet 53 = .ok (.iastore, 1) := by decide +kernel
theorem dX7_sheet_54 : decode cX7_sheet 54 = .ok (.iconst 0, 1) := by decide +kernel
theorem dX7_sheet_55 : decode cX7_sheet 55 = .ok (.istore 4, 2) := by decide +kernel
theorem dX7_sheet_57 : decode cX7_sheet 57 = .ok (.iload 4, 2) := by decide +kernel
theorem dX7_sheet_59 : decode cX7_sheet 59 = .ok (.bipush 60, 2) := by decide +kernel
theorem dX7_sheet_61 : decode cX7_sheet 61 = .ok (.if_icmp .ge 22, 3) := by decide +kernel
theorem dX7_sheet_64 : decode cX7_sheet 64 = .ok (.aload_n 0, 1) := by decide +kernel
theorem dX7_sheet_65 : decode cX7_sheet 65 = .ok (.getfield 16, 3) := by decide +kernel
theorem dX7_sheet_68 : decode cX7_sheet 68 = .ok (.bipush 60, 2) := by decide +kernel
theorem dX7_sheet_70 : decode cX7_sheet 70 = .ok (.iload_n 1, 1) := by decide +kernel
theorem dX7_sheet_71 : decode cX7_sheet 71 = .ok (.imul, 1) := by decide +kernel
theorem dX7_sheet_72 : decode cX7_sheet 72 = .ok (.iload 4, 2) := by decide +kernel
theorem dX7_sheet_74 : decode cX7_sheet 74 = .ok (.iadd, 1) := by decide +kernel
theorem dX7_sheet_75 : decode cX7_sheet 75 = .ok (.iconst 0, 1) := by decide +kernel
theorem dX7_sheet_76 : decode cX7_sheet 76 = .ok (.iastore, 1) := by decide +kernel
theorem dX7_sheet_77 : decode cX7_sheet 77 = .ok (.iinc 4 1, 3) := by decide +kernel
theorem dX7_sheet_80 : decode cX7_sheet 80 = .ok (.goto (-23), 3) := by decide +kernel
theorem dX7_sheet_83 : decode cX7_sheet 83 = .ok (.iconst 1, 1) := by decide +kernel
theorem dX7_sheet_84 : decode cX7_sheet 84 = .ok (.ireturn, 1) := by decide +kernel
set_option maxRecDepth 20000 in
theorem ggX7_lose_X7_isSheet : GoodIn wsX7_lose wsX7_isSheet := goodIn_r _ [5, 6, 7, 4, 8] (by decide +kernel) (by decide +kernel)
set_option maxRecDepth 20000 in
theorem gX7_lose_X7_isSheet : GoodIn wsX7_lose (va_wsS RX7 74 yX7_isSheet wsX7_isSheet) := goodIn_app (goodIn_of _ (by decide +kernel)) ggX7_lose_X7_isSheet
theorem dX7_lose_0 : decode cX7_lose 0 = .ok (.iload_n 1, 1) := by decide +kernel
theorem dX7_lose_1 : decode cX7_lose 1 = .ok (.invokestatic 74, 3) := by decide +kernel
theorem dX7_lose_4 : decode cX7_lose 4 = .ok (.ifCond .ne 5, 3) := by decide +kernel
theorem dX7_lose_7 : decode cX7_lose 7 = .ok (.iconst (-1), 1) := by decide +kernel
theorem dX7_lose_8 : decode cX7_lose 8 = .ok (.ireturn, 1) := by decide +kernel
theorem dX7_lose_9 : decode cX7_lose 9 = .ok (.aload_n 0, 1) := by decide +kernel
theorem dX7_lose_10 : decode cX7_lose 10 = .ok (.getfield 9, 3) := by decide +kernel
theorem dX7_lose_13 : decode cX7_lose 13 = .ok (.iload_n 1, 1) := by decide +kernel
theorem dX7_lose_14 : decode cX7_lose 14 = .ok (.iaload, 1) := by decide +kernel
theorem dX7_lose_15 : decode cX7_lose 15 = .ok (.bipush (-9), 2) := by decide +kernel
theorem dX7_lose_17 : decode cX7_lose 17 = .ok (.if_icmp .ne 7, 3) := by decide +kernel
theorem dX7_lose_20 : decode cX7_lose 20 = .ok (.iconst 0, 1) := by decide +kernel
theorem dX7_lose_21 : decode cX7_lose 21 = .ok (.goto 4, 3) := by decide +kernel
theorem dX7_lose_24 : decode cX7_lose 24 = .ok (.iconst 1, 1) := by decide +kernel
theorem dX7_lose_25 : decode cX7_lose 25 = .ok (.istore_n 2, 1) := by decide +kernel
theorem dX7_lose_26 : decode cX7_lose 26 = .ok (.aload_n 0, 1) := by decide +kernel
theorem dX7_lose_27 : decode cX7_lose 27 = .ok (.getfield 9, 3) := by decide +kernel
theorem dX7_lose_30 : decode cX7_lose 30 = .ok (.iload_n 1, 1) := by decide +kernel
theorem dX7_lose_31 : decode cX7_lose 31 = .ok (.bipush (-9), 2) := by decide +kernel
theorem dX7_lose_33 : decode cX7_lose 33 = .ok (.iastore, 1) := by decide +kernel
theorem dX7_lose_34 : decode cX7_lose 34 = .ok (.iload_n 2, 1) := by decide +kernel
theorem dX7_lose_35 : decode cX7_lose 35 = .ok (.ireturn, 1) := by decide +kernel
set_option maxRecDepth 20000 in
theorem ggX7_put_X7_isSheet : GoodIn wsX7_put wsX7_isSheet := goodIn_r _ [8, 9, 10, 7, 11] (by decide +kernel) (by decide +kernel)
set_option maxRecDepth 20000 in
theorem gX7_put_X7_isSheet : GoodIn wsX7_put (va_wsS RX7 74 yX7_isSheet wsX7_isSheet) := goodIn_app (goodIn_of _ (by decide +kernel)) ggX7_put_X7_isSheet
set_option maxRecDepth 20000 in
theorem ggX7_put_X7_fails : GoodIn wsX7_put wsX7_fails := goodIn_r _ [15, 1, 16, 17, 18, 19, 20, 21, 22, 23, 24, 25, 26, 27, 28, 29, 30, 31, 32, 33, 34, 35, 36, 37, 38, 39, 40, 41, 42, 43, 44] (by decide +kernel) (by decide +kernel)
set_option maxRecDepth 20000 in
theorem gX7_put_X7_fails : GoodIn wsX7_put (wsV RX7 85 RX7 yX7_fails wsX7_fails) := goodIn_app (goodIn_of _ (by decide +kernel)) ggX7_put_X7_fails
set_option maxRecDepth 20000 in
theorem ggX7_put_X7_within : GoodIn wsX7_put wsX7_within := goodIn_r _ [11] (by decide +kernel) (by decide +kernel)
set_option maxRecDepth 20000 in
theorem gX7_put_X7_within : GoodIn wsX7_put (va_wsS RX7 61 yX7_within wsX7_within) := goodIn_app (goodIn_of _ (by decide +kernel)) ggX7_put_X7_within
theorem dX7_put_0 : decode cX7_put 0 = .ok (.aload_n 0, 1) := by decide +kernel
theorem dX7_put_1 : decode cX7_put 1 = .ok (.iconst 0, 1) := by decide +kernel
theorem dX7_put_2 : decode cX7_put 2 = .ok (.putfield 55, 3) := by decide +kernel
theorem dX7_put_5 : decode cX7_put 5 = .ok (.iload_n 1, 1) := by decide +kernel
theorem dX7_put_6 : decode cX7_put 6 = .ok (.invokestatic 74, 3) := by decide +kernel
theorem dX7_put_9 : decode cX7_put 9 = .ok (.ifCond .ne 5, 3) := by decide +kernel
theorem dX7_put_12 : decode cX7_put 12 = .ok (.iconst (-1), 1) := by decide +kernel
theorem dX7_put_13 : decode cX7_put 13 = .ok (.ireturn, 1) := by decide +kernel
theorem dX7_put_14 : decode cX7_put 14 = .ok (.aload_n 0, 1) := by decide +kernel
theorem dX7_put_15 : decode cX7_put 15 = .ok (.getfield 9, 3) := by decide +kernel
theorem dX7_put_18 : decode cX7_put 18 = .ok (.iload_n 1, 1) := by decide +kernel
theorem dX7_put_19 : decode cX7_put 19 = .ok (.iaload, 1) := by decide +kernel
theorem dX7_put_20 : decode cX7_put 20 = .ok (.bipush (-9), 2) := by decide +kernel
theorem dX7_put_22 : decode cX7_put 22 = .ok (.if_icmp .ne 9, 3) := by decide +kernel
theorem dX7_put_25 : decode cX7_put 25 = .ok (.aload_n 0, 1) := by decide +kernel
theorem dX7_put_26 : decode cX7_put 26 = .ok (.iconst 1, 1) := by decide +kernel
theorem dX7_put_27 : decode cX7_put 27 = .ok (.invokevirtual 85, 3) := by decide +kernel
theorem dX7_put_30 : decode cX7_put 30 = .ok (.ireturn, 1) := by decide +kernel
theorem dX7_put_31 : decode cX7_put 31 = .ok (.iload_n 2, 1) := by decide +kernel
theorem dX7_put_32 : decode cX7_put 32 = .ok (.iconst 0, 1) := by decide +kernel
theorem dX7_put_33 : decode cX7_put 33 = .ok (.aload_n 0, 1) := by decide +kernel
theorem dX7_put_34 : decode cX7_put 34 = .ok (.getfield 13, 3) := by decide +kernel
theorem dX7_put_37 : decode cX7_put 37 = .ok (.iload_n 1, 1) := by decide +kernel
theorem dX7_put_38 : decode cX7_put 38 = .ok (.iaload, 1) := by decide +kernel
theorem dX7_put_39 : decode cX7_put 39 = .ok (.iconst 1, 1) := by decide +kernel
theorem dX7_put_40 : decode cX7_put 40 = .ok (.isub, 1) := by decide +kernel
theorem dX7_put_41 : decode cX7_put 41 = .ok (.invokestatic 61, 3) := by decide +kernel
theorem dX7_put_44 : decode cX7_put 44 = .ok (.ifCond .ne 9, 3) := by decide +kernel
theorem dX7_put_47 : decode cX7_put 47 = .ok (.aload_n 0, 1) := by decide +kernel
theorem dX7_put_48 : decode cX7_put 48 = .ok (.iconst 3, 1) := by decide +kernel
theorem dX7_put_49 : decode cX7_put 49 = .ok (.invokevirtual 85, 3) := by decide +kernel
theorem dX7_put_52 : decode cX7_put 52 = .ok (.ireturn, 1) := by decide +kernel
theorem dX7_put_53 : decode cX7_put 53 = .ok (.aload_n 0, 1) := by decide +kernel
end
section
theorem dX7_put_54 : decode cX7_put 54 = .ok (.getfield 16, 3) := by decide +kernel
theorem dX7_put_57 : decode cX7_put 57 = .ok (.bipush 60, 2) := by decide +kernel
theorem dX7_put_59 : decode cX7_put 59 = .ok (.iload_n 1, 1) := by decide +kernel
theorem dX7_put_60 : decode cX7_put 60 = .ok (.imul, 1) := by decide +kernel
theorem dX7_put_61 : decode cX7_put 61 = .ok (.iload_n 2, 1) := by decide +kernel
theorem dX7_put_62 : decode cX7_put 62 = .ok (.iadd, 1) := by decide +kernel
theorem dX7_put_63 : decode cX7_put 63 = .ok (.aload_n 0, 1) := by decide +kernel
theorem dX7_put_64 : decode cX7_put 64 = .ok (.getfield 9, 3) := by decide +kernel
theorem dX7_put_67 : decode cX7_put 67 = .ok (.iload_n 1, 1) := by decide +kernel
theorem dX7_put_68 : decode cX7_put 68 = .ok (.iaload, 1) := by decide +kernel
theorem dX7_put_69 : decode cX7_put 69 = .ok (.ifCond .ne 8, 3) := by decide +kernel
theorem dX7_put_72 : decode cX7_put 72 = .ok (.iload_n 3, 1) := by decide +kernel
theorem dX7_put_73 : decode cX7_put 73 = .ok (.i2b, 1) := by decide +kernel
theorem dX7_put_74 : decode cX7_put 74 = .ok (.goto 19, 3) := by decide +kernel
theorem dX7_put_77 : decode cX7_put 77 = .ok (.aload_n 0, 1) := by decide +kernel
theorem dX7_put_78 : decode cX7_put 78 = .ok (.getfield 9, 3) := by decide +kernel
theorem dX7_put_81 : decode cX7_put 81 = .ok (.iload_n 1, 1) := by decide +kernel
theorem dX7_put_82 : decode cX7_put 82 = .ok (.iaload, 1) := by decide +kernel
theorem dX7_put_83 : decode cX7_put 83 = .ok (.iconst 1, 1) := by decide +kernel
theorem dX7_put_84 : decode cX7_put 84 = .ok (.if_icmp .ne 8, 3) := by decide +kernel
theorem dX7_put_87 : decode cX7_put 87 = .ok (.iload_n 3, 1) := by decide +kernel
theorem dX7_put_88 : decode cX7_put 88 = .ok (.i2s, 1) := by decide +kernel
theorem dX7_put_89 : decode cX7_put 89 = .ok (.goto 4, 3) := by decide +kernel
theorem dX7_put_92 : decode cX7_put 92 = .ok (.iload_n 3, 1) := by decide +kernel
theorem dX7_put_93 : decode cX7_put 93 = .ok (.iastore, 1) := by decide +kernel
theorem dX7_put_94 : decode cX7_put 94 = .ok (.iconst 1, 1) := by decide +kernel
theorem dX7_put_95 : decode cX7_put 95 = .ok (.ireturn, 1) := by decide +kernel
set_option maxRecDepth 20000 in
theorem ggX7_cell_X7_isSheet : GoodIn wsX7_cell wsX7_isSheet := goodIn_r _ [9, 10, 11, 8, 12] (by decide +kernel) (by decide +kernel)
set_option maxRecDepth 20000 in
theorem gX7_cell_X7_isSheet : GoodIn wsX7_cell (va_wsS RX7 74 yX7_isSheet wsX7_isSheet) := goodIn_app (goodIn_of _ (by decide +kernel)) ggX7_cell_X7_isSheet
set_option maxRecDepth 20000 in
theorem ggX7_cell_X7_isSort : GoodIn wsX7_cell wsX7_isSort := goodIn_r _ [15, 10, 11, 8, 12] (by decide +kernel) (by decide +kernel)
set_option maxRecDepth 20000 in
theorem gX7_cell_X7_isSort : GoodIn wsX7_cell (va_wsS RX7 78 yX7_isSort wsX7_isSort) := goodIn_app (goodIn_of _ (by decide +kernel)) ggX7_cell_X7_isSort
set_option maxRecDepth 20000 in
theorem ggX7_cell_X7_lost : GoodIn wsX7_cell wsX7_lost := goodIn_r _ [19, 1, 2, 20, 21, 22, 23, 24, 25, 26, 27, 28, 29, 30, 31, 32, 33, 34, 35, 36, 37, 38, 39, 40, 41, 42, 43, 44, 45, 46, 47, 48] (by decide +kernel) (by decide +kernel)
set_option maxRecDepth 20000 in
theorem gX7_cell_X7_lost : GoodIn wsX7_cell (wsV RX7 214 RX7 yX7_lost wsX7_lost) := goodIn_app (goodIn_of _ (by decide +kernel)) ggX7_cell_X7_lost
set_option maxRecDepth 20000 in
theorem ggX7_cell_X7_within : GoodIn wsX7_cell wsX7_within := goodIn_r _ [12] (by decide +kernel) (by decide +kernel)
set_option maxRecDepth 20000 in
theorem gX7_cell_X7_within : GoodIn wsX7_cell (va_wsS RX7 61 yX7_within wsX7_within) := goodIn_app (goodIn_of _ (by decide +kernel)) ggX7_cell_X7_within
theorem dX7_cell_0 : decode cX7_cell 0 = .ok (.aload_n 0, 1) := by decide +kernel
theorem dX7_cell_1 : decode cX7_cell 1 = .ok (.iconst 0, 1) := by decide +kernel
theorem dX7_cell_2 : decode cX7_cell 2 = .ok (.putfield 55, 3) := by decide +kernel
theorem dX7_cell_5 : decode cX7_cell 5 = .ok (.iload_n 1, 1) := by decide +kernel
theorem dX7_cell_6 : decode cX7_cell 6 = .ok (.invokestatic 74, 3) := by decide +kernel
theorem dX7_cell_9 : decode cX7_cell 9 = .ok (.ifCond .eq 10, 3) := by decide +kernel
theorem dX7_cell_12 : decode cX7_cell 12 = .ok (.iload_n 3, 1) := by decide +kernel
theorem dX7_cell_13 : decode cX7_cell 13 = .ok (.invokestatic 78, 3) := by decide +kernel
theorem dX7_cell_16 : decode cX7_cell 16 = .ok (.ifCond .ne 7, 3) := by decide +kernel
theorem dX7_cell_19 : decode cX7_cell 19 = .ok (.ldc2_w 59, 3) := by decide +kernel
theorem dX7_cell_22 : decode cX7_cell 22 = .ok (.lreturn, 1) := by decide +kernel
theorem dX7_cell_23 : decode cX7_cell 23 = .ok (.aload_n 0, 1) := by decide +kernel
theorem dX7_cell_24 : decode cX7_cell 24 = .ok (.getfield 9, 3) := by decide +kernel
theorem dX7_cell_27 : decode cX7_cell 27 = .ok (.iload_n 1, 1) := by decide +kernel
theorem dX7_cell_28 : decode cX7_cell 28 = .ok (.iaload, 1) := by decide +kernel
theorem dX7_cell_29 : decode cX7_cell 29 = .ok (.bipush (-9), 2) := by decide +kernel
theorem dX7_cell_31 : decode cX7_cell 31 = .ok (.if_icmp .eq 19, 3) := by decide +kernel
theorem dX7_cell_34 : decode cX7_cell 34 = .ok (.aload_n 0, 1) := by decide +kernel
theorem dX7_cell_35 : decode cX7_cell 35 = .ok (.getfield 9, 3) := by decide +kernel
theorem dX7_cell_38 : decode cX7_cell 38 = .ok (.iload_n 1, 1) := by decide +kernel
theorem dX7_cell_39 : decode cX7_cell 39 = .ok (.iaload, 1) := by decide +kernel
theorem dX7_cell_40 : decode cX7_cell 40 = .ok (.iload_n 3, 1) := by decide +kernel
theorem dX7_cell_41 : decode cX7_cell 41 = .ok (.if_icmp .eq 9, 3) := by decide +kernel
theorem dX7_cell_44 : decode cX7_cell 44 = .ok (.aload_n 0, 1) := by decide +kernel
theorem dX7_cell_45 : decode cX7_cell 45 = .ok (.iconst 2, 1) := by decide +kernel
theorem dX7_cell_46 : decode cX7_cell 46 = .ok (.invokevirtual 214, 3) := by decide +kernel
theorem dX7_cell_49 : decode cX7_cell 49 = .ok (.lreturn, 1) := by decide +kernel
theorem dX7_cell_50 : decode cX7_cell 50 = .ok (.aload_n 0, 1) := by decide +kernel
theorem dX7_cell_51 : decode cX7_cell 51 = .ok (.getfield 9, 3) := by decide +kernel
theorem dX7_cell_54 : decode cX7_cell 54 = .ok (.iload_n 1, 1) := by decide +kernel
theorem dX7_cell_55 : decode cX7_cell 55 = .ok (.iaload, 1) := by decide +kernel
theorem dX7_cell_56 : decode cX7_cell 56 = .ok (.bipush (-9), 2) := by decide +kernel
theorem dX7_cell_58 : decode cX7_cell 58 = .ok (.if_icmp .ne 9, 3) := by decide +kernel
theorem dX7_cell_61 : decode cX7_cell 61 = .ok (.aload_n 0, 1) := by decide +kernel
theorem dX7_cell_62 : decode cX7_cell 62 = .ok (.iconst 1, 1) := by decide +kernel
theorem dX7_cell_63 : decode cX7_cell 63 = .ok (.invokevirtual 214, 3) := by decide +kernel
theorem dX7_cell_66 : decode cX7_cell 66 = .ok (.lreturn, 1) := by decide +kernel
theorem dX7_cell_67 : decode cX7_cell 67 = .ok (.iload_n 2, 1) := by decide +kernel
theorem dX7_cell_68 : decode cX7_cell 68 = .ok (.iconst 0, 1) := by decide +kernel
theorem dX7_cell_69 : decode cX7_cell 69 = .ok (.aload_n 0, 1) := by decide +kernel
theorem dX7_cell_70 : decode cX7_cell 70 = .ok (.getfield 13, 3) := by decide +kernel
theorem dX7_cell_73 : decode cX7_cell 73 = .ok (.iload_n 1, 1) := by decide +kernel
theorem dX7_cell_74 : decode cX7_cell 74 = .ok (.iaload, 1) := by decide +kernel
theorem dX7_cell_75 : decode cX7_cell 75 = .ok (.iconst 1, 1) := by decide +kernel
theorem dX7_cell_76 : decode cX7_cell 76 = .ok (.isub, 1) := by decide +kernel
theorem dX7_cell_77 : decode cX7_cell 77 = .ok (.invokestatic 61, 3) := by decide +kernel
theorem dX7_cell_80 : decode cX7_cell 80 = .ok (.ifCond .ne 9, 3) := by decide +kernel
theorem dX7_cell_83 : decode cX7_cell 83 = .ok (.aload_n 0, 1) := by decide +kernel
theorem dX7_cell_84 : decode cX7_cell 84 = .ok (.iconst 3, 1) := by decide +kernel
theorem dX7_cell_85 : decode cX7_cell 85 = .ok (.invokevirtual 214, 3) := by decide +kernel
theorem dX7_cell_88 : decode cX7_cell 88 = .ok (.lreturn, 1) := by decide +kernel
theorem dX7_cell_89 : decode cX7_cell 89 = .ok (.aload_n 0, 1) := by decide +kernel
theorem dX7_cell_90 : decode cX7_cell 90 = .ok (.getfield 16, 3) := by decide +kernel
theorem dX7_cell_93 : decode cX7_cell 93 = .ok (.bipush 60, 2) := by decide +kernel
theorem dX7_cell_95 : decode cX7_cell 95 = .ok (.iload_n 1, 1) := by decide +kernel
theorem dX7_cell_96 : decode cX7_cell 96 = .ok (.imul, 1) := by decide +kernel
theorem dX7_cell_97 : decode cX7_cell 97 = .ok (.iload_n 2, 1) := by decide +kernel
theorem dX7_cell_98 : decode cX7_cell 98 = .ok (.iadd, 1) := by decide +kernel
theorem dX7_cell_99 : decode cX7_cell 99 = .ok (.iaload, 1) := by decide +kernel
theorem dX7_cell_100 : decode cX7_cell 100 = .ok (.i2l, 1) := by decide +kernel
theorem dX7_cell_101 : decode cX7_cell 101 = .ok (.lreturn, 1) := by decide +kernel
set_option maxRecDepth 20000 in
theorem ggX7_copy_X7_isSheet : GoodIn wsX7_copy wsX7_isSheet := goodIn_r _ [8, 9, 10, 7, 11] (by decide +kernel) (by decide +kernel)
set_option maxRecDepth 20000 in
theorem gX7_copy_X7_isSheet : GoodIn wsX7_copy (va_wsS RX7 74 yX7_isSheet wsX7_isSheet) := goodIn_app (goodIn_of _ (by decide +kernel)) ggX7_copy_X7_isSheet
set_option maxRecDepth 20000 in
theorem ggX7_copy_X7_fails : GoodIn wsX7_copy wsX7_fails := goodIn_r _ [15, 1, 16, 17, 18, 19, 20, 21, 22, 23, 24, 25, 26, 27, 28, 29, 30, 31, 32, 33, 34, 35, 36, 37, 38, 39, 40, 41, 42, 43, 44] (by decide +kernel) (by decide +kernel)
set_option maxRecDepth 20000 in
theorem gX7_copy_X7_fails : GoodIn wsX7_copy (wsV RX7 85 RX7 yX7_fails wsX7_fails) := goodIn_app (goodIn_of _ (by decide +kernel)) ggX7_copy_X7_fails
theorem dX7_copy_0 : decode cX7_copy 0 = .ok (.aload_n 0, 1) := by decide +kernel
theorem dX7_copy_1 : decode cX7_copy 1 = .ok (.iconst 0, 1) := by decide +kernel
theorem dX7_copy_2 : decode cX7_copy 2 = .ok (.putfield 55, 3) := by decide +kernel
theorem dX7_copy_5 : decode cX7_copy 5 = .ok (.iload_n 1, 1) := by decide +kernel
theorem dX7_copy_6 : decode cX7_copy 6 = .ok (.invokestatic 74, 3) := by decide +kernel
theorem dX7_copy_9 : decode cX7_copy 9 = .ok (.ifCond .eq 10, 3) := by decide +kernel
theorem dX7_copy_12 : decode cX7_copy 12 = .ok (.iload_n 3, 1) := by decide +kernel
theorem dX7_copy_13 : decode cX7_copy 13 = .ok (.invokestatic 74, 3) := by decide +kernel
theorem dX7_copy_16 : decode cX7_copy 16 = .ok (.ifCond .ne 5, 3) := by decide +kernel
theorem dX7_copy_19 : decode cX7_copy 19 = .ok (.iconst (-1), 1) := by decide +kernel
theorem dX7_copy_20 : decode cX7_copy 20 = .ok (.ireturn, 1) := by decide +kernel
theorem dX7_copy_21 : decode cX7_copy 21 = .ok (.aload_n 0, 1) := by decide +kernel
theorem dX7_copy_22 : decode cX7_copy 22 = .ok (.getfield 9, 3) := by decide +kernel
theorem dX7_copy_25 : decode cX7_copy 25 = .ok (.iload_n 1, 1) := by decide +kernel
theorem dX7_copy_26 : decode cX7_copy 26 = .ok (.iaload, 1) := by decide +kernel
theorem dX7_copy_27 : decode cX7_copy 27 = .ok (.bipush (-9), 2) := by decide +kernel
theorem dX7_copy_29 : decode cX7_copy 29 = .ok (.if_icmp .eq 14, 3) := by decide +kernel
theorem dX7_copy_32 : decode cX7_copy 32 = .ok (.aload_n 0, 1) := by decide +kernel
theorem dX7_copy_33 : decode cX7_copy 33 = .ok (.getfield 9, 3) := by decide +kernel
theorem dX7_copy_36 : decode cX7_copy 36 = .ok (.iload_n 3, 1) := by decide +kernel
theorem dX7_copy_37 : decode cX7_copy 37 = .ok (.iaload, 1) := by decide +kernel
theorem dX7_copy_38 : decode cX7_copy 38 = .ok (.bipush (-9), 2) := by decide +kernel
theorem dX7_copy_40 : decode cX7_copy 40 = .ok (.if_icmp .ne 9, 3) := by decide +kernel
theorem dX7_copy_43 : decode cX7_copy 43 = .ok (.aload_n 0, 1) := by decide +kernel
theorem dX7_copy_44 : decode cX7_copy 44 = .ok (.iconst 1, 1) := by decide +kernel
theorem dX7_copy_45 : decode cX7_copy 45 = .ok (.invokevirtual 85, 3) := by decide +kernel
theorem dX7_copy_48 : decode cX7_copy 48 = .ok (.ireturn, 1) := by decide +kernel
theorem dX7_copy_49 : decode cX7_copy 49 = .ok (.aload_n 0, 1) := by decide +kernel
theorem dX7_copy_50 : decode cX7_copy 50 = .ok (.getfield 9, 3) := by decide +kernel
theorem dX7_copy_53 : decode cX7_copy 53 = .ok (.iload_n 1, 1) := by decide +kernel
theorem dX7_copy_54 : decode cX7_copy 54 = .ok (.iaload, 1) := by decide +kernel
theorem dX7_copy_55 : decode cX7_copy 55 = .ok (.aload_n 0, 1) := by decide +kernel
theorem dX7_copy_56 : decode cX7_copy 56 = .ok (.getfield 9, 3) := by decide +kernel
theorem dX7_copy_59 : decode cX7_copy 59 = .ok (.iload_n 3, 1) := by decide +kernel
theorem dX7_copy_60 : decode cX7_copy 60 = .ok (.iaload, 1) := by decide +kernel
theorem dX7_copy_61 : decode cX7_copy 61 = .ok (.if_icmp .eq 9, 3) := by decide +kernel
theorem dX7_copy_64 : decode cX7_copy 64 = .ok (.aload_n 0, 1) := by decide +kernel
theorem dX7_copy_65 : decode cX7_copy 65 = .ok (.iconst 2, 1) := by decide +kernel
theorem dX7_copy_66 : decode cX7_copy 66 = .ok (.invokevirtual 85, 3) := by decide +kernel
theorem dX7_copy_69 : decode cX7_copy 69 = .ok (.ireturn, 1) := by decide +kernel
theorem dX7_copy_70 : decode cX7_copy 70 = .ok (.iload_n 2, 1) := by decide +kernel
theorem dX7_copy_71 : decode cX7_copy 71 = .ok (.ifCond .lt 38, 3) := by decide +kernel
theorem dX7_copy_74 : decode cX7_copy 74 = .ok (.iload 4, 2) := by decide +kernel
theorem dX7_copy_76 : decode cX7_copy 76 = .ok (.ifCond .lt 33, 3) := by decide +kernel
theorem dX7_copy_79 : decode cX7_copy 79 = .ok (.iload 5, 2) := by decide +kernel
theorem dX7_copy_81 : decode cX7_copy 81 = .ok (.ifCond .lt 28, 3) := by decide +kernel
theorem dX7_copy_84 : decode cX7_copy 84 = .ok (.iload_n 2, 1) := by decide +kernel
theorem dX7_copy_85 : decode cX7_copy 85 = .ok (.aload_n 0, 1) := by decide +kernel
theorem dX7_copy_86 : decode cX7_copy 86 = .ok (.getfield 13, 3) := by decide +kernel
theorem dX7_copy_89 : decode cX7_copy 89 = .ok (.iload_n 1, 1) := by decide +kernel
theorem dX7_copy_90 : decode cX7_copy 90 = .ok (.iaload, 1) := by decide +kernel
theorem dX7_copy_91 : decode cX7_copy 91 = .ok (.if_icmp .gt 18, 3) := by decide +kernel
theorem dX7_copy_94 : decode cX7_copy 94 = .ok (.iload 4, 2) := by decide +kernel
theorem dX7_copy_96 : decode cX7_copy 96 = .ok (.aload_n 0, 1) := by decide +kernel
theorem dX7_copy_97 : decode cX7_copy 97 = .ok (.getfield 13, 3) := by decide +kernel
theorem dX7_copy_100 : decode cX7_copy 100 = .ok (.iload_n 3, 1) := by decide +kernel
theorem dX7_copy_101 : decode cX7_copy 101 = .ok (.iaload, 1) := by decide +kernel
theorem dX7_copy_102 : decode cX7_copy 102 = .ok (.if_icmp .gt 7, 3) := by decide +kernel
theorem dX7_copy_105 : decode cX7_copy 105 = .ok (.iconst 1, 1) := by decide +kernel
theorem dX7_copy_106 : decode cX7_copy 106 = .ok (.goto 4, 3) := by decide +kernel
theorem dX7_copy_109 : decode cX7_copy 109 = .ok (.iconst 0, 1) := by decide +kernel
theorem dX7_copy_110 : decode cX7_copy 110 = .ok (.istore 6, 2) := by decide +kernel
theorem dX7_copy_112 : decode cX7_copy 112 = .ok (.iload 6, 2) := by decide +kernel
theorem dX7_copy_114 : decode cX7_copy 114 = .ok (.ifCond .eq 30, 3) := by decide +kernel
theorem dX7_copy_117 : decode cX7_copy 117 = .ok (.iload 5, 2) := by decide +kernel
theorem dX7_copy_119 : decode cX7_copy 119 = .ok (.aload_n 0, 1) := by decide +kernel
theorem dX7_copy_120 : decode cX7_copy 120 = .ok (.getfield 13, 3) := by decide +kernel
theorem dX7_copy_123 : decode cX7_copy 123 = .ok (.iload_n 1, 1) := by decide +kernel
theorem dX7_copy_124 : decode cX7_copy 124 = .ok (.iaload, 1) := by decide +kernel
theorem dX7_copy_125 : decode cX7_copy 125 = .ok (.iload_n 2, 1) := by decide +kernel
theorem dX7_copy_126 : decode cX7_copy 126 = .ok (.isub, 1) := by decide +kernel
theorem dX7_copy_127 : decode cX7_copy 127 = .ok (.if_icmp .gt 17, 3) := by decide +kernel
theorem dX7_copy_130 : decode cX7_copy 130 = .ok (.iload 5, 2) := by decide +kernel
theorem dX7_copy_132 : decode cX7_copy 132 = .ok (.aload_n 0, 1) := by decide +kernel
theorem dX7_copy_133 : decode cX7_copy 133 = .ok (.getfield 13, 3) := by decide +kernel
theorem dX7_copy_136 : decode cX7_copy 136 = .ok (.iload_n 3, 1) := by decide +kernel
theorem dX7_copy_137 : decode cX7_copy 137 = .ok (.iaload, 1) := by decide +kernel
theorem dX7_copy_138 : decode cX7_copy 138 = .ok (.iload 4, 2) := by decide +kernel
theorem dX7_copy_140 : decode cX7_copy 140 = .ok (.isub, 1) := by decide +kernel
theorem dX7_copy_141 : decode cX7_copy 141 = .ok (.if_icmp .le 9, 3) := by decide +kernel
theorem dX7_copy_144 : decode cX7_copy 144 = .ok (.aload_n 0, 1) := by decide +kernel
theorem dX7_copy_145 : decode cX7_copy 145 = .ok (.iconst 3, 1) := by decide +kernel
theorem dX7_copy_146 : decode cX7_copy 146 = .ok (.invokevirtual 85, 3) := by decide +kernel
theorem dX7_copy_149 : decode cX7_copy 149 = .ok (.ireturn, 1) := by decide +kernel
theorem dX7_copy_150 : decode cX7_copy 150 = .ok (.iload_n 2, 1) := by decide +kernel
theorem dX7_copy_151 : decode cX7_copy 151 = .ok (.iload 4, 2) := by decide +kernel
theorem dX7_copy_153 : decode cX7_copy 153 = .ok (.if_icmp .ge 7, 3) := by decide +kernel
theorem dX7_copy_156 : decode cX7_copy 156 = .ok (.iconst 1, 1) := by decide +kernel
theorem dX7_copy_157 : decode cX7_copy 157 = .ok (.goto 4, 3) := by decide +kernel
theorem dX7_copy_160 : decode cX7_copy 160 = .ok (.iconst 0, 1) := by decide +kernel
theorem dX7_copy_161 : decode cX7_copy 161 = .ok (.istore 7, 2) := by decide +kernel
theorem dX7_copy_163 : decode cX7_copy 163 = .ok (.iconst 0, 1) := by decide +kernel
theorem dX7_copy_164 : decode cX7_copy 164 = .ok (.istore 8, 2) := by decide +kernel
theorem dX7_copy_166 : decode cX7_copy 166 = .ok (.iload 8, 2) := by decide +kernel
theorem dX7_copy_168 : decode cX7_copy 168 = .ok (.iload 5, 2) := by decide +kernel
theorem dX7_copy_170 : decode cX7_copy 170 = .ok (.if_icmp .ge 57, 3) := by decide +kernel
theorem dX7_copy_173 : decode cX7_copy 173 = .ok (.iload 7, 2) := by decide +kernel
theorem dX7_copy_175 : decode cX7_copy 175 = .ok (.ifCond .eq 13, 3) := by decide +kernel
theorem dX7_copy_178 : decode cX7_copy 178 = .ok (.iload 5, 2) := by decide +kernel
theorem dX7_copy_180 : decode cX7_copy 180 = .ok (.iconst 1, 1) := by decide +kernel
theorem dX7_copy_181 : decode cX7_copy 181 = .ok (.isub, 1) := by decide +kernel
theorem dX7_copy_182 : decode cX7_copy 182 = .ok (.iload 8, 2) := by decide +kernel
theorem dX7_copy_184 : decode cX7_copy 184 = .ok (.isub, 1) := by decide +kernel
theorem dX7_copy_185 : decode cX7_copy 185 = .ok (.goto 5, 3) := by decide +kernel
theorem dX7_copy_188 : decode cX7_copy 188 = .ok (.iload 8, 2) := by decide +kernel
theorem dX7_copy_190 : decode cX7_copy 190 = .ok (.istore 9, 2) := by decide +kernel
theorem dX7_copy_192 : decode cX7_copy 192 = .ok (.aload_n 0, 1) := by decide +kernel
theorem dX7_copy_193 : decode cX7_copy 193 = .ok (.getfield 16, 3) := by decide +kernel
theorem dX7_copy_196 : decode cX7_copy 196 = .ok (.bipush 60, 2) := by decide +kernel
theorem dX7_copy_198 : decode cX7_copy 198 = .ok (.iload_n 3, 1) := by decide +kernel
theorem dX7_copy_199 : decode cX7_copy 199 = .ok (.imul, 1) := by decide +kernel
theorem dX7_copy_200 : decode cX7_copy 200 = .ok (.iload 4, 2) := by decide +kernel
theorem dX7_copy_202 : decode cX7_copy 202 = .ok (.iadd, 1) := by decide +kernel
theorem dX7_copy_203 : decode cX7_copy 203 = .ok (.iload 9, 2) := by decide +kernel
theorem dX7_copy_205 : decode cX7_copy 205 = .ok (.iadd, 1) := by decide +kernel
theorem dX7_copy_206 : decode cX7_copy 206 = .ok (.aload_n 0, 1) := by decide +kernel
theorem dX7_copy_207 : decode cX7_copy 207 = .ok (.getfield 16, 3) := by decide +kernel
theorem dX7_copy_210 : decode cX7_copy 210 = .ok (.bipush 60, 2) := by decide +kernel
theorem dX7_copy_212 : decode cX7_copy 212 = .ok (.iload_n 1, 1) := by decide +kernel
theorem dX7_copy_213 : decode cX7_copy 213 = .ok (.imul, 1) := by decide +kernel
theorem dX7_copy_214 : decode cX7_copy 214 = .ok (.iload_n 2, 1) := by decide +kernel
theorem dX7_copy_215 : decode cX7_copy 215 = .ok (.iadd, 1) := by decide +kernel
theorem dX7_copy_216 : decode cX7_copy 216 = .ok (.iload 9, 2) := by decide +kernel
theorem dX7_copy_218 : decode cX7_copy 218 = .ok (.iadd, 1) := by decide +kernel
theorem dX7_copy_219 : decode cX7_copy 219 = .ok (.iaload, 1) := by decide +kernel
theorem dX7_copy_220 : decode cX7_copy 220 = .ok (.iastore, 1) := by decide +kernel
theorem dX7_copy_221 : decode cX7_copy 221 = .ok (.iinc 8 1, 3) := by decide +kernel
theorem dX7_copy_224 : decode cX7_copy 224 = .ok (.goto (-58), 3) := by decide +kernel
theorem dX7_copy_227 : decode cX7_copy 227 = .ok (.iload 5, 2) := by decide +kernel
theorem dX7_copy_229 : decode cX7_copy 229 = .ok (.ireturn, 1) := by decide +kernel
theorem dX7_begins_0 : decode cX7_begins 0 = .ok (.aload_n 0, 1) := by decide +kernel
theorem dX7_begins_1 : decode cX7_begins 1 = .ok (.bipush 31, 2) := by decide +kernel
theorem dX7_begins_3 : decode cX7_begins 3 = .ok (.aload_n 0, 1) := by decide +kernel
theorem dX7_begins_4 : decode cX7_begins 4 = .ok (.getfield 218, 3) := by decide +kernel
theorem dX7_begins_7 : decode cX7_begins 7 = .ok (.imul, 1) := by decide +kernel
theorem dX7_begins_8 : decode cX7_begins 8 = .ok (.iload_n 1, 1) := by decide +kernel
theorem dX7_begins_9 : decode cX7_begins 9 = .ok (.iadd, 1) := by decide +kernel
theorem dX7_begins_10 : decode cX7_begins 10 = .ok (.putfield 218, 3) := by decide +kernel
theorem dX7_begins_13 : decode cX7_begins 13 = .ok (.return_, 1) := by decide +kernel
set_option maxRecDepth 20000 in
theorem ggX7_tell_X7_isGallery : GoodIn wsX7_tell wsX7_isGallery := goodIn_r _ [7, 8, 14, 15, 16, 17, 18, 19, 20, 21, 22, 23, 24, 25, 26, 27, 28, 29, 30, 31, 32, 33, 34, 35, 36, 37, 38, 39, 40, 41, 42] (by decide +kernel) (by decide +kernel)
set_option maxRecDepth 20000 in
theorem gX7_tell_X7_isGallery : GoodIn wsX7_tell (wsV RX7 131 RX7 yX7_isGallery wsX7_isGallery) := goodIn_app (goodIn_of _ (by decide +kernel)) ggX7_tell_X7_isGallery
set_option maxRecDepth 20000 in
theorem ggX7_tell_X7_begins : GoodIn wsX7_tell wsX7_begins := goodIn_r _ [12, 13, 14, 15, 16, 17, 18, 19, 20, 21, 22, 23, 24, 25, 26, 27, 28, 29, 30, 31, 32, 33, 34, 35, 36, 37, 38, 39, 40, 41, 42] (by decide +kernel) (by decide +kernel)
set_option maxRecDepth 20000 in
theorem gX7_tell_X7_begins : GoodIn wsX7_tell (wsV RX7 221 RX7 yX7_begins wsX7_begins) := goodIn_app (goodIn_of _ (by decide +kernel)) ggX7_tell_X7_begins
theorem dX7_tell_0 : decode cX7_tell 0 = .ok (.aload_n 0, 1) := by decide +kernel
theorem dX7_tell_1 : decode cX7_tell 1 = .ok (.iload_n 1, 1) := by decide +kernel
theorem dX7_tell_2 : decode cX7_tell 2 = .ok (.invokevirtual 131, 3) := by decide +kernel
theorem dX7_tell_5 : decode cX7_tell 5 = .ok (.ifCond .ne 5, 3) := by decide +kernel
theorem dX7_tell_8 : decode cX7_tell 8 = .ok (.iconst (-1), 1) := by decide +kernel
theorem dX7_tell_9 : decode cX7_tell 9 = .ok (.ireturn, 1) := by decide +kernel
theorem dX7_tell_10 : decode cX7_tell 10 = .ok (.aload_n 0, 1) := by decide +kernel
theorem dX7_tell_11 : decode cX7_tell 11 = .ok (.getfield 28, 3) := by decide +kernel
theorem dX7_tell_14 : decode cX7_tell 14 = .ok (.iload_n 1, 1) := by decide +kernel
theorem dX7_tell_15 : decode cX7_tell 15 = .ok (.iaload, 1) := by decide +kernel
theorem dX7_tell_16 : decode cX7_tell 16 = .ok (.istore_n 2, 1) := by decide +kernel
theorem dX7_tell_17 : decode cX7_tell 17 = .ok (.aload_n 0, 1) := by decide +kernel
theorem dX7_tell_18 : decode cX7_tell 18 = .ok (.getfield 22, 3) := by decide +kernel
theorem dX7_tell_21 : decode cX7_tell 21 = .ok (.iload_n 1, 1) := by decide +kernel
theorem dX7_tell_22 : decode cX7_tell 22 = .ok (.iaload, 1) := by decide +kernel
theorem dX7_tell_23 : decode cX7_tell 23 = .ok (.lookupswitch 67 #[(1, 25), (2, 40)], 25) := by decide +kernel
theorem dX7_tell_48 : decode cX7_tell 48 = .ok (.aload_n 0, 1) := by decide +kernel
theorem dX7_tell_49 : decode cX7_tell 49 = .ok (.iconst 2, 1) := by decide +kernel
theorem dX7_tell_50 : decode cX7_tell 50 = .ok (.invokevirtual 221, 3) := by decide +kernel
theorem dX7_tell_53 : decode cX7_tell 53 = .ok (.aload_n 0, 1) := by decide +kernel
theorem dX7_tell_54 : decode cX7_tell 54 = .ok (.iconst 1, 1) := by decide +kernel
theorem dX7_tell_55 : decode cX7_tell 55 = .ok (.invokevirtual 221, 3) := by decide +kernel
theorem dX7_tell_58 : decode cX7_tell 58 = .ok (.iload_n 2, 1) := by decide +kernel
theorem dX7_tell_59 : decode cX7_tell 59 = .ok (.bipush 100, 2) := by decide +kernel
theorem dX7_tell_61 : decode cX7_tell 61 = .ok (.iadd, 1) := by decide +kernel
theorem dX7_tell_62 : decode cX7_tell 62 = .ok (.ireturn, 1) := by decide +kernel
theorem dX7_tell_63 : decode cX7_tell 63 = .ok (.aload_n 0, 1) := by decide +kernel
theorem dX7_tell_64 : decode cX7_tell 64 = .ok (.iconst 3, 1) := by decide +kernel
theorem dX7_tell_65 : decode cX7_tell 65 = .ok (.invokevirtual 221, 3) := by decide +kernel
theorem dX7_tell_68 : decode cX7_tell 68 = .ok (.aload_n 0, 1) := by decide +kernel
theorem dX7_tell_69 : decode cX7_tell 69 = .ok (.iconst 2, 1) := by decide +kernel
theorem dX7_tell_70 : decode cX7_tell 70 = .ok (.invokevirtual 221, 3) := by decide +kernel
theorem dX7_tell_73 : decode cX7_tell 73 = .ok (.aload_n 0, 1) := by decide +kernel
theorem dX7_tell_74 : decode cX7_tell 74 = .ok (.iconst 1, 1) := by decide +kernel
theorem dX7_tell_75 : decode cX7_tell 75 = .ok (.invokevirtual 221, 3) := by decide +kernel
theorem dX7_tell_78 : decode cX7_tell 78 = .ok (.aload_n 0, 1) := by decide +kernel
theorem dX7_tell_79 : decode cX7_tell 79 = .ok (.iconst 1, 1) := by decide +kernel
theorem dX7_tell_80 : decode cX7_tell 80 = .ok (.invokevirtual 221, 3) := by decide +kernel
theorem dX7_tell_83 : decode cX7_tell 83 = .ok (.iconst 2, 1) := by decide +kernel
theorem dX7_tell_84 : decode cX7_tell 84 = .ok (.iload_n 2, 1) := by decide +kernel
theorem dX7_tell_85 : decode cX7_tell 85 = .ok (.imul, 1) := by decide +kernel
theorem dX7_tell_86 : decode cX7_tell 86 = .ok (.bipush 100, 2) := by decide +kernel
theorem dX7_tell_88 : decode cX7_tell 88 = .ok (.iadd, 1) := by decide +kernel
theorem dX7_tell_89 : decode cX7_tell 89 = .ok (.ireturn, 1) := by decide +kernel
theorem dX7_tell_90 : decode cX7_tell 90 = .ok (.aload_n 0, 1) := by decide +kernel
theorem dX7_tell_91 : decode cX7_tell 91 = .ok (.iconst 1, 1) := by decide +kernel
theorem dX7_tell_92 : decode cX7_tell 92 = .ok (.invokevirtual 221, 3) := by decide +kernel
theorem dX7_tell_95 : decode cX7_tell 95 = .ok (.iload_n 2, 1) := by decide +kernel
theorem dX7_tell_96 : decode cX7_tell 96 = .ok (.ireturn, 1) := by decide +kernel
set_option maxRecDepth 20000 in
theorem ggX7_sign_X7_isGallery : GoodIn wsX7_sign wsX7_isGallery := goodIn_r _ [6, 7, 13, 14, 15, 16, 17, 18, 19, 20, 21, 22, 23, 24, 25, 26, 27, 28, 29, 30, 31, 32, 33, 34, 35, 36, 37, 38, 39, 40, 41] (by decide +kernel) (by decide +kernel)
set_option maxRecDepth 20000 in
theorem gX7_sign_X7_isGallery : GoodIn wsX7_sign (wsV RX7 131 RX7 yX7_isGallery wsX7_isGallery) := goodIn_app (goodIn_of _ (by decide +kernel)) ggX7_sign_X7_isGallery
set_option maxRecDepth 20000 in
theorem ggX7_sign_X7_begins : GoodIn wsX7_sign wsX7_begins := goodIn_r _ [11, 12, 13, 14, 15, 16, 17, 18, 19, 20, 21, 22, 23, 24, 25, 26, 27, 28, 29, 30, 31, 32, 33, 34, 35, 36, 37, 38, 39, 40, 41] (by decide +kernel) (by decide +kernel)
set_option maxRecDepth 20000 in
theorem gX7_sign_X7_begins : GoodIn wsX7_sign (wsV RX7 221 RX7 yX7_begins wsX7_begins) := goodIn_app (goodIn_of _ (by decide +kernel)) ggX7_sign_X7_begins
theorem dX7_sign_0 : decode cX7_sign 0 = .ok (.aload_n 0, 1) := by decide +kernel
theorem dX7_sign_1 : decode cX7_sign 1 = .ok (.iload_n 1, 1) := by decide +kernel
theorem dX7_sign_2 : decode cX7_sign 2 = .ok (.invokevirtual 131, 3) := by decide +kernel
theorem dX7_sign_5 : decode cX7_sign 5 = .ok (.ifCond .ne 5, 3) := by decide +kernel
theorem dX7_sign_8 : decode cX7_sign 8 = .ok (.iconst (-1), 1) := by decide +kernel
theorem dX7_sign_9 : decode cX7_sign 9 = .ok (.ireturn, 1) := by decide +kernel
theorem dX7_sign_10 : decode cX7_sign 10 = .ok (.aload_n 0, 1) := by decide +kernel
theorem dX7_sign_11 : decode cX7_sign 11 = .ok (.aload_n 0, 1) := by decide +kernel
theorem dX7_sign_12 : decode cX7_sign 12 = .ok (.getfield 22, 3) := by decide +kernel
theorem dX7_sign_15 : decode cX7_sign 15 = .ok (.iload_n 1, 1) := by decide +kernel
theorem dX7_sign_16 : decode cX7_sign 16 = .ok (.iaload, 1) := by decide +kernel
theorem dX7_sign_17 : decode cX7_sign 17 = .ok (.iconst 2, 1) := by decide +kernel
theorem dX7_sign_18 : decode cX7_sign 18 = .ok (.if_icmp .ne 7, 3) := by decide +kernel
theorem dX7_sign_21 : decode cX7_sign 21 = .ok (.iconst 5, 1) := by decide +kernel
theorem dX7_sign_22 : decode cX7_sign 22 = .ok (.goto 4, 3) := by decide +kernel
theorem dX7_sign_25 : decode cX7_sign 25 = .ok (.iconst 4, 1) := by decide +kernel
theorem dX7_sign_26 : decode cX7_sign 26 = .ok (.invokevirtual 221, 3) := by decide +kernel
theorem dX7_sign_29 : decode cX7_sign 29 = .ok (.aload_n 0, 1) := by decide +kernel
theorem dX7_sign_30 : decode cX7_sign 30 = .ok (.getfield 22, 3) := by decide +kernel
theorem dX7_sign_33 : decode cX7_sign 33 = .ok (.iload_n 1, 1) := by decide +kernel
theorem dX7_sign_34 : decode cX7_sign 34 = .ok (.iaload, 1) := by decide +kernel
theorem dX7_sign_35 : decode cX7_sign 35 = .ok (.iconst 2, 1) := by decide +kernel
theorem dX7_sign_36 : decode cX7_sign 36 = .ok (.if_icmp .ne 8, 3) := by decide +kernel
theorem dX7_sign_39 : decode cX7_sign 39 = .ok (.bipush 50, 2) := by decide +kernel
theorem dX7_sign_41 : decode cX7_sign 41 = .ok (.goto 4, 3) := by decide +kernel
theorem dX7_sign_44 : decode cX7_sign 44 = .ok (.iload_n 1, 1) := by decide +kernel
theorem dX7_sign_45 : decode cX7_sign 45 = .ok (.ireturn, 1) := by decide +kernel
set_option maxRecDepth 20000 in
theorem ggX7_as_X7_isGallery : GoodIn wsX7_as wsX7_isGallery := goodIn_r _ [7, 8, 16, 17, 18, 19, 20, 21, 22, 23, 24, 25, 26, 27, 28, 29, 30, 31, 32, 33, 34, 35, 36, 37, 38, 39, 40, 41, 42, 43, 44] (by decide +kernel) (by decide +kernel)
set_option maxRecDepth 20000 in
theorem gX7_as_X7_isGallery : GoodIn wsX7_as (wsV RX7 131 RX7 yX7_isGallery wsX7_isGallery) := goodIn_app (goodIn_of _ (by decide +kernel)) ggX7_as_X7_isGallery
set_option maxRecDepth 20000 in
theorem ggX7_as_X7_within : GoodIn wsX7_as wsX7_within := goodIn_r _ [11] (by decide +kernel) (by decide +kernel)
set_option maxRecDepth 20000 in
theorem gX7_as_X7_within : GoodIn wsX7_as (va_wsS RX7 61 yX7_within wsX7_within) := goodIn_app (goodIn_of _ (by decide +kernel)) ggX7_as_X7_within
set_option maxRecDepth 20000 in
theorem ggX7_as_X7_fails : GoodIn wsX7_as wsX7_fails := goodIn_r _ [15, 1, 16, 17, 18, 19, 20, 21, 22, 23, 24, 25, 26, 27, 28, 29, 30, 31, 32, 33, 34, 35, 36, 37, 38, 39, 40, 41, 42, 43, 44] (by decide +kernel) (by decide +kernel)
set_option maxRecDepth 20000 in
theorem gX7_as_X7_fails : GoodIn wsX7_as (wsV RX7 85 RX7 yX7_fails wsX7_fails) := goodIn_app (goodIn_of _ (by decide +kernel)) ggX7_as_X7_fails
theorem dX7_as_0 : decode cX7_as 0 = .ok (.aload_n 0, 1) := by decide +kernel
theorem dX7_as_1 : decode cX7_as 1 = .ok (.iconst 0, 1) := by decide +kernel
theorem dX7_as_2 : decode cX7_as 2 = .ok (.putfield 55, 3) := by decide +kernel
theorem dX7_as_5 : decode cX7_as 5 = .ok (.aload_n 0, 1) := by decide +kernel
theorem dX7_as_6 : decode cX7_as 6 = .ok (.iload_n 1, 1) := by decide +kernel
theorem dX7_as_7 : decode cX7_as 7 = .ok (.invokevirtual 131, 3) := by decide +kernel
theorem dX7_as_10 : decode cX7_as 10 = .ok (.ifCond .ne 5, 3) := by decide +kernel
theorem dX7_as_13 : decode cX7_as 13 = .ok (.iconst (-1), 1) := by decide +kernel
theorem dX7_as_14 : decode cX7_as 14 = .ok (.ireturn, 1) := by decide +kernel
theorem dX7_as_15 : decode cX7_as 15 = .ok (.iload_n 2, 1) := by decide +kernel
theorem dX7_as_16 : decode cX7_as 16 = .ok (.iconst 0, 1) := by decide +kernel
theorem dX7_as_17 : decode cX7_as 17 = .ok (.iconst 2, 1) := by decide +kernel
theorem dX7_as_18 : decode cX7_as 18 = .ok (.invokestatic 61, 3) := by decide +kernel
theorem dX7_as_21 : decode cX7_as 21 = .ok (.ifCond .ne 6, 3) := by decide +kernel
theorem dX7_as_24 : decode cX7_as 24 = .ok (.bipush (-2), 2) := by decide +kernel
theorem dX7_as_26 : decode cX7_as 26 = .ok (.ireturn, 1) := by decide +kernel
theorem dX7_as_27 : decode cX7_as 27 = .ok (.aload_n 0, 1) := by decide +kernel
theorem dX7_as_28 : decode cX7_as 28 = .ok (.getfield 22, 3) := by decide +kernel
theorem dX7_as_31 : decode cX7_as 31 = .ok (.iload_n 1, 1) := by decide +kernel
theorem dX7_as_32 : decode cX7_as 32 = .ok (.iaload, 1) := by decide +kernel
theorem dX7_as_33 : decode cX7_as 33 = .ok (.iload_n 2, 1) := by decide +kernel
theorem dX7_as_34 : decode cX7_as 34 = .ok (.if_icmp .lt 7, 3) := by decide +kernel
theorem dX7_as_37 : decode cX7_as 37 = .ok (.iconst 1, 1) := by decide +kernel
theorem dX7_as_38 : decode cX7_as 38 = .ok (.goto 8, 3) := by decide +kernel
theorem dX7_as_41 : decode cX7_as 41 = .ok (.aload_n 0, 1) := by decide +kernel
theorem dX7_as_42 : decode cX7_as 42 = .ok (.iconst 2, 1) := by decide +kernel
theorem dX7_as_43 : decode cX7_as 43 = .ok (.invokevirtual 85, 3) := by decide +kernel
theorem dX7_as_46 : decode cX7_as 46 = .ok (.ireturn, 1) := by decide +kernel
theorem dX7_trace_0 : decode cX7_trace 0 = .ok (.aload_n 0, 1) := by decide +kernel
theorem dX7_trace_1 : decode cX7_trace 1 = .ok (.getfield 218, 3) := by decide +kernel
theorem dX7_trace_4 : decode cX7_trace 4 = .ok (.ireturn, 1) := by decide +kernel
theorem dX7_fault_0 : decode cX7_fault 0 = .ok (.aload_n 0, 1) := by decide +kernel
theorem dX7_fault_1 : decode cX7_fault 1 = .ok (.getfield 55, 3) := by decide +kernel
theorem dX7_fault_4 : decode cX7_fault 4 = .ok (.ireturn, 1) := by decide +kernel
set_option maxRecDepth 20000 in
theorem ggX7_many_X7_size : GoodIn wsX7_many wsX7_size := goodIn_r _ [9] (by decide +kernel) (by decide +kernel)
set_option maxRecDepth 20000 in
theorem gX7_many_X7_size : GoodIn wsX7_many (va_wsS RX7 160 yX7_size wsX7_size) := goodIn_app (goodIn_of _ (by decide +kernel)) ggX7_many_X7_size
theorem dX7_many_0 : decode cX7_many 0 = .ok (.iload_n 1, 1) := by decide +kernel
theorem dX7_many_1 : decode cX7_many 1 = .ok (.tableswitch 63 0 4 #[35, 40, 45, 50, 58], 35) := by decide +kernel
theorem dX7_many_36 : decode cX7_many 36 = .ok (.aload_n 0, 1) := by decide +kernel
theorem dX7_many_37 : decode cX7_many 37 = .ok (.getfield 65, 3) := by decide +kernel
theorem dX7_many_40 : decode cX7_many 40 = .ok (.ireturn, 1) := by decide +kernel
theorem dX7_many_41 : decode cX7_many 41 = .ok (.aload_n 0, 1) := by decide +kernel
theorem dX7_many_42 : decode cX7_many 42 = .ok (.getfield 68, 3) := by decide +kernel
theorem dX7_many_45 : decode cX7_many 45 = .ok (.ireturn, 1) := by decide +kernel
theorem dX7_many_46 : decode cX7_many 46 = .ok (.aload_n 0, 1) := by decide +kernel
theorem dX7_many_47 : decode cX7_many 47 = .ok (.getfield 104, 3) := by decide +kernel
theorem dX7_many_50 : decode cX7_many 50 = .ok (.ireturn, 1) := by decide +kernel
theorem dX7_many_51 : decode cX7_many 51 = .ok (.aload_n 0, 1) := by decide +kernel
theorem dX7_many_52 : decode cX7_many 52 = .ok (.getfield 107, 3) := by decide +kernel
theorem dX7_many_55 : decode cX7_many 55 = .ok (.invokestatic 160, 3) := by decide +kernel
theorem dX7_many_58 : decode cX7_many 58 = .ok (.ireturn, 1) := by decide +kernel
theorem dX7_many_59 : decode cX7_many 59 = .ok (.aload_n 0, 1) := by decide +kernel
theorem dX7_many_60 : decode cX7_many 60 = .ok (.getfield 110, 3) := by decide +kernel
theorem dX7_many_63 : decode cX7_many 63 = .ok (.ireturn, 1) := by decide +kernel
theorem dX7_many_64 : decode cX7_many 64 = .ok (.bipush (-2), 2) := by decide +kernel
theorem dX7_many_66 : decode cX7_many 66 = .ok (.ireturn, 1) := by decide +kernel
theorem dJ6_bitCount_0f7a4_0 : decode cJ6_bitCount_0f7a4 0 = .ok (.iload_n 0, 1) := by decide +kernel
theorem dJ6_bitCount_0f7a4_1 : decode cJ6_bitCount_0f7a4 1 = .ok (.iload_n 0, 1) := by decide +kernel
theorem dJ6_bitCount_0f7a4_2 : decode cJ6_bitCount_0f7a4 2 = .ok (.iconst 1, 1) := by decide +kernel
theorem dJ6_bitCount_0f7a4_3 : decode cJ6_bitCount_0f7a4 3 = .ok (.iushr, 1) := by decide +kernel
theorem dJ6_bitCount_0f7a4_4 : decode cJ6_bitCount_0f7a4 4 = .ok (.ldc_w 265, 3) := by decide +kernel
theorem dJ6_bitCount_0f7a4_7 : decode cJ6_bitCount_0f7a4 7 = .ok (.iand, 1) := by decide +kernel
theorem dJ6_bitCount_0f7a4_8 : decode cJ6_bitCount_0f7a4 8 = .ok (.isub, 1) := by decide +kernel
theorem dJ6_bitCount_0f7a4_9 : decode cJ6_bitCount_0f7a4 9 = .ok (.istore_n 0, 1) := by decide +kernel
theorem dJ6_bitCount_0f7a4_10 : decode cJ6_bitCount_0f7a4 10 = .ok (.iload_n 0, 1) := by decide +kernel
theorem dJ6_bitCount_0f7a4_11 : decode cJ6_bitCount_0f7a4 11 = .ok (.ldc_w 266, 3) := by decide +kernel
theorem dJ6_bitCount_0f7a4_14 : decode cJ6_bitCount_0f7a4 14 = .ok (.iand, 1) := by decide +kernel
theorem dJ6_bitCount_0f7a4_15 : decode cJ6_bitCount_0f7a4 15 = .ok (.iload_n 0, 1) := by decide +kernel
theorem dJ6_bitCount_0f7a4_16 : decode cJ6_bitCount_0f7a4 16 = .ok (.iconst 2, 1) := by decide +kernel
theorem dJ6_bitCount_0f7a4_17 : decode cJ6_bitCount_0f7a4 17 = .ok (.iushr, 1) := by decide +kernel
theorem dJ6_bitCount_0f7a4_18 : decode cJ6_bitCount_0f7a4 18 = .ok (.ldc_w 266, 3) := by decide +kernel
theorem dJ6_bitCount_0f7a4_21 : decode cJ6_bitCount_0f7a4 21 = .ok (.iand, 1) := by decide +kernel
theorem dJ6_bitCount_0f7a4_22 : decode cJ6_bitCount_0f7a4 22 = .ok (.iadd, 1) := by decide +kernel
theorem dJ6_bitCount_0f7a4_23 : decode cJ6_bitCount_0f7a4 23 = .ok (.istore_n 0, 1) := by decide +kernel
theorem dJ6_bitCount_0f7a4_24 : decode cJ6_bitCount_0f7a4 24 = .ok (.iload_n 0, 1) := by decide +kernel
theorem dJ6_bitCount_0f7a4_25 : decode cJ6_bitCount_0f7a4 25 = .ok (.iload_n 0, 1) := by decide +kernel
theorem dJ6_bitCount_0f7a4_26 : decode cJ6_bitCount_0f7a4 26 = .ok (.iconst 4, 1) := by decide +kernel
theorem dJ6_bitCount_0f7a4_27 : decode cJ6_bitCount_0f7a4 27 = .ok (.iushr, 1) := by decide +kernel
theorem dJ6_bitCount_0f7a4_28 : decode cJ6_bitCount_0f7a4 28 = .ok (.iadd, 1) := by decide +kernel
theorem dJ6_bitCount_0f7a4_29 : decode cJ6_bitCount_0f7a4 29 = .ok (.ldc_w 267, 3) := by decide +kernel
theorem dJ6_bitCount_0f7a4_32 : decode cJ6_bitCount_0f7a4 32 = .ok (.iand, 1) := by decide +kernel
theorem dJ6_bitCount_0f7a4_33 : decode cJ6_bitCount_0f7a4 33 = .ok (.istore_n 0, 1) := by decide +kernel
theorem dJ6_bitCount_0f7a4_34 : decode cJ6_bitCount_0f7a4 34 = .ok (.iload_n 0, 1) := by decide +kernel
theorem dJ6_bitCount_0f7a4_35 : decode cJ6_bitCount_0f7a4 35 = .ok (.iload_n 0, 1) := by decide +kernel
theorem dJ6_bitCount_0f7a4_36 : decode cJ6_bitCount_0f7a4 36 = .ok (.bipush 8, 2) := by decide +kernel
theorem dJ6_bitCount_0f7a4_38 : decode cJ6_bitCount_0f7a4 38 = .ok (.iushr, 1) := by decide +kernel
theorem dJ6_bitCount_0f7a4_39 : decode cJ6_bitCount_0f7a4 39 = .ok (.iadd, 1) := by decide +kernel
theorem dJ6_bitCount_0f7a4_40 : decode cJ6_bitCount_0f7a4 40 = .ok (.istore_n 0, 1) := by decide +kernel
theorem dJ6_bitCount_0f7a4_41 : decode cJ6_bitCount_0f7a4 41 = .ok (.iload_n 0, 1) := by decide +kernel
theorem dJ6_bitCount_0f7a4_42 : decode cJ6_bitCount_0f7a4 42 = .ok (.iload_n 0, 1) := by decide +kernel
theorem dJ6_bitCount_0f7a4_43 : decode cJ6_bitCount_0f7a4 43 = .ok (.bipush 16, 2) := by decide +kernel
theorem dJ6_bitCount_0f7a4_45 : decode cJ6_bitCount_0f7a4 45 = .ok (.iushr, 1) := by decide +kernel
theorem dJ6_bitCount_0f7a4_46 : decode cJ6_bitCount_0f7a4 46 = .ok (.iadd, 1) := by decide +kernel
theorem dJ6_bitCount_0f7a4_47 : decode cJ6_bitCount_0f7a4 47 = .ok (.istore_n 0, 1) := by decide +kernel
theorem dJ6_bitCount_0f7a4_48 : decode cJ6_bitCount_0f7a4 48 = .ok (.iload_n 0, 1) := by decide +kernel
theorem dJ6_bitCount_0f7a4_49 : decode cJ6_bitCount_0f7a4 49 = .ok (.bipush 63, 2) := by decide +kernel
theorem dJ6_bitCount_0f7a4_51 : decode cJ6_bitCount_0f7a4 51 = .ok (.iand, 1) := by decide +kernel
theorem dJ6_bitCount_0f7a4_52 : decode cJ6_bitCount_0f7a4 52 = .ok (.ireturn, 1) := by decide +kernel
theorem dJ9_abs_0f7a4_0 : decode cJ9_abs_0f7a4 0 = .ok (.iload_n 0, 1) := by decide +kernel
theorem dJ9_abs_0f7a4_1 : decode cJ9_abs_0f7a4 1 = .ok (.ifCond .ge 8, 3) := by decide +kernel
theorem dJ9_abs_0f7a4_4 : decode cJ9_abs_0f7a4 4 = .ok (.iload_n 0, 1) := by decide +kernel
theorem dJ9_abs_0f7a4_5 : decode cJ9_abs_0f7a4 5 = .ok (.ineg, 1) := by decide +kernel
theorem dJ9_abs_0f7a4_6 : decode cJ9_abs_0f7a4 6 = .ok (.goto 4, 3) := by decide +kernel
theorem dJ9_abs_0f7a4_9 : decode cJ9_abs_0f7a4 9 = .ok (.iload_n 0, 1) := by decide +kernel
theorem dJ9_abs_0f7a4_10 : decode cJ9_abs_0f7a4 10 = .ok (.ireturn, 1) := by decide +kernel
theorem dJ9_max_7cf53_0 : decode cJ9_max_7cf53 0 = .ok (.iload_n 0, 1) := by decide +kernel
theorem dJ9_max_7cf53_1 : decode cJ9_max_7cf53 1 = .ok (.iload_n 1, 1) := by decide +kernel
theorem dJ9_max_7cf53_2 : decode cJ9_max_7cf53 2 = .ok (.if_icmp .lt 7, 3) := by decide +kernel
theorem dJ9_max_7cf53_5 : decode cJ9_max_7cf53 5 = .ok (.iload_n 0, 1) := by decide +kernel
theorem dJ9_max_7cf53_6 : decode cJ9_max_7cf53 6 = .ok (.goto 4, 3) := by decide +kernel
theorem dJ9_max_7cf53_9 : decode cJ9_max_7cf53 9 = .ok (.iload_n 1, 1) := by decide +kernel
theorem dJ9_max_7cf53_10 : decode cJ9_max_7cf53 10 = .ok (.ireturn, 1) := by decide +kernel
theorem dJ9_min_7cf53_0 : decode cJ9_min_7cf53 0 = .ok (.iload_n 0, 1) := by decide +kernel
theorem dJ9_min_7cf53_1 : decode cJ9_min_7cf53 1 = .ok (.iload_n 1, 1) := by decide +kernel
theorem dJ9_min_7cf53_2 : decode cJ9_min_7cf53 2 = .ok (.if_icmp .gt 7, 3) := by decide +kernel
theorem dJ9_min_7cf53_5 : decode cJ9_min_7cf53 5 = .ok (.iload_n 0, 1) := by decide +kernel
theorem dJ9_min_7cf53_6 : decode cJ9_min_7cf53 6 = .ok (.goto 4, 3) := by decide +kernel
theorem dJ9_min_7cf53_9 : decode cJ9_min_7cf53 9 = .ok (.iload_n 1, 1) := by decide +kernel
theorem dJ9_min_7cf53_10 : decode cJ9_min_7cf53 10 = .ok (.ireturn, 1) := by decide +kernel
set_option maxRecDepth 20000 in
theorem ggL_law_X6_init : GoodIn wsL_law wsX6_init := goodIn_r _ [8, 9, 10, 11, 12, 13, 14, 15, 16, 17, 18, 19, 20, 21, 22, 23, 24, 25, 26, 27, 28, 29, 30, 31, 32, 33, 34, 35, 36, 37, 38, 39, 40, 41, 42, 43, 44, 45, 46, 47, 48, 49, 50, 51, 52, 53, 54, 55, 56, 57, 58, 59, 60, 61, 62, 63, 64, 65, 66, 67, 68, 69, 70, 71, 72, 73, 74, 75, 76, 77, 78, 79, 80, 81, 725, 726, 727, 728, 729, 730, 731, 732, 733, 734, 735, 765, 766, 767, 768, 769, 770, 771, 772, 773, 774, 775, 776, 777, 778, 779, 780, 781, 782, 783, 784, 785, 786] (by decide +kernel) (by decide +kernel)
end
section
set_option maxRecDepth 20000 in
theorem gL_law_X6_init : GoodIn wsL_law (wsX6_init) := ggL_law_X6_init
set_option maxRecDepth 20000 in
theorem ggL_law_X7_init : GoodIn wsL_law wsX7_init := goodIn_r _ [84, 85, 10, 11, 31, 86, 87, 88, 89, 90, 91, 92, 93, 94, 95, 96, 97, 98, 99, 100, 736, 737, 738, 739, 740, 741, 742, 743, 744, 745, 746, 747, 748, 749, 750, 751, 752, 753, 754, 755, 756, 757, 758, 759, 760, 761, 762, 763, 764] (by decide +kernel) (by decide +kernel)
set_option maxRecDepth 20000 in
theorem gL_law_X7_init : GoodIn wsL_law (wsX7_init) := ggL_law_X7_init
set_option maxRecDepth 20000 in
theorem ggL_law_X6_mine : GoodIn wsL_law wsX6_mine := goodIn_r _ [104, 39, 13, 105, 17, 106, 107, 108, 2, 109, 110, 111, 112, 113, 114, 115, 41, 116, 78, 79, 117, 118, 119, 120, 81, 121, 122, 123, 124, 125, 126, 127, 128, 129, 130, 131, 132, 133, 134, 135, 136, 137, 138, 139, 140, 141, 142, 143, 144, 145, 146, 147, 148, 149, 150, 151, 21, 152, 153, 154, 37, 25, 155, 156, 157, 158, 159, 725, 726, 727, 728, 729, 730, 731, 732, 733, 734, 735, 783, 784, 785, 786, 765, 766, 767, 768, 769, 770, 771, 772, 773, 774, 775, 776] (by decide +kernel) (by decide +kernel)
set_option maxRecDepth 20000 in
theorem gL_law_X6_mine : GoodIn wsL_law (wsV RL 13 RX6 yX6_mine wsX6_mine) := goodIn_app (goodIn_of _ (by decide +kernel)) ggL_law_X6_mine
set_option maxRecDepth 20000 in
theorem ggL_law_X7_mine : GoodIn wsL_law wsX7_mine := goodIn_r _ [163, 164, 165, 166, 167, 168, 5, 169, 170, 171, 172, 173, 174, 175, 176, 177, 178, 179, 86, 87, 180, 181, 182, 183, 184, 185, 186, 187, 188, 189, 190, 191, 192, 88, 193, 194, 195, 196, 197, 93, 198, 199, 200, 201, 202, 203, 204, 205, 94, 206, 207, 208, 209, 210, 89, 211, 90, 91, 92, 212, 213, 214, 736, 737, 738, 739, 740, 741, 742, 743, 744, 745, 746, 747, 748, 749, 750, 751, 752, 753, 754, 755, 756, 757, 758, 759, 760, 761, 762, 763, 764] (by decide +kernel) (by decide +kernel)
set_option maxRecDepth 20000 in
theorem gL_law_X7_mine : GoodIn wsL_law (wsV RL 17 RX7 yX7_mine wsX7_mine) := goodIn_app (goodIn_of _ (by decide +kernel)) ggL_law_X7_mine
set_option maxRecDepth 20000 in
theorem ggL_law_X6_ofGallery : GoodIn wsL_law wsX6_ofGallery := goodIn_r _ [218, 17, 151, 21, 152, 153, 154, 150, 219, 220, 221, 2, 222, 106, 223, 224, 225, 16, 226, 48, 49, 227, 228, 156, 157, 158, 159, 725, 726, 727, 728, 729, 730, 731, 732, 733, 734, 735, 765, 766, 767, 768, 769, 770, 771, 772] (by decide +kernel) (by decide +kernel)
set_option maxRecDepth 20000 in
theorem gL_law_X6_ofGallery : GoodIn wsL_law (wsV RL 18 RX6 yX6_ofGallery wsX6_ofGallery) := goodIn_app (goodIn_of _ (by decide +kernel)) ggL_law_X6_ofGallery
set_option maxRecDepth 20000 in
theorem ggL_law_X7_ofGallery : GoodIn wsL_law wsX7_ofGallery := goodIn_r _ [232, 90, 91, 92, 213, 211, 233, 234, 235, 5, 236, 166, 237, 238, 239, 240, 241, 242, 243, 244, 245, 246, 247, 736, 737, 738, 739, 740, 741, 742, 743, 744, 745, 746, 747, 748, 749, 750, 751, 752, 753, 754, 755, 756, 757, 758, 759, 760, 761, 762, 763, 764] (by decide +kernel) (by decide +kernel)
set_option maxRecDepth 20000 in
theorem gL_law_X7_ofGallery : GoodIn wsL_law (wsV RL 22 RX7 yX7_ofGallery wsX7_ofGallery) := goodIn_app (goodIn_of _ (by decide +kernel)) ggL_law_X7_ofGallery
set_option maxRecDepth 20000 in
theorem ggL_law_X6_bad : GoodIn wsL_law wsX6_bad := goodIn_r _ [251, 17, 145, 252, 253, 254, 2, 255, 144, 725, 726, 727, 728, 729, 730, 731, 732, 733, 734, 735, 765, 766, 767, 768, 769, 770] (by decide +kernel) (by decide +kernel)
set_option maxRecDepth 20000 in
theorem gL_law_X6_bad : GoodIn wsL_law (wsV RL 23 RX6 yX6_bad wsX6_bad) := goodIn_app (goodIn_of _ (by decide +kernel)) ggL_law_X6_bad
set_option maxRecDepth 20000 in
theorem ggL_law_X7_bad : GoodIn wsL_law wsX7_bad := goodIn_r _ [259, 89, 260, 261, 262, 5, 263, 210, 736, 737, 738, 739, 740, 741, 742, 743, 744, 745, 746, 747, 748, 749, 750, 751, 752, 753, 754, 755, 756, 757, 758, 759, 760, 761, 762, 763, 764] (by decide +kernel) (by decide +kernel)
set_option maxRecDepth 20000 in
theorem gL_law_X7_bad : GoodIn wsL_law (wsV RL 27 RX7 yX7_bad wsX7_bad) := goodIn_app (goodIn_of _ (by decide +kernel)) ggL_law_X7_bad
set_option maxRecDepth 20000 in
theorem ggL_law_X6_foul : GoodIn wsL_law wsX6_foul := goodIn_r _ [267, 21, 152, 219, 220, 221, 2, 222, 17, 106, 268, 269, 270, 725, 726, 727, 728, 729, 730, 731, 732, 733, 734, 735, 771, 772, 765, 766, 767, 768, 769, 770] (by decide +kernel) (by decide +kernel)
set_option maxRecDepth 20000 in
theorem gL_law_X6_foul : GoodIn wsL_law (wsV RL 28 RX6 yX6_foul wsX6_foul) := goodIn_app (goodIn_of _ (by decide +kernel)) ggL_law_X6_foul
set_option maxRecDepth 20000 in
theorem ggL_law_X7_foul : GoodIn wsL_law wsX7_foul := goodIn_r _ [274, 91, 233, 234, 235, 5, 236, 166, 170, 171, 172, 736, 737, 738, 739, 740, 741, 742, 743, 744, 745, 746, 747, 748, 749, 750, 751, 752, 753, 754, 755, 756, 757, 758, 759, 760, 761, 762, 763, 764] (by decide +kernel) (by decide +kernel)
set_option maxRecDepth 20000 in
theorem gL_law_X7_foul : GoodIn wsL_law (wsV RL 31 RX7 yX7_foul wsX7_foul) := goodIn_app (goodIn_of _ (by decide +kernel)) ggL_law_X7_foul
set_option maxRecDepth 20000 in
theorem ggL_law_X6_breed : GoodIn wsL_law wsX6_breed := goodIn_r _ [278, 17, 153, 219, 220, 221, 2, 222, 106, 725, 726, 727, 728, 729, 730, 731, 732, 733, 734, 735, 765, 766, 767, 768, 769, 770] (by decide +kernel) (by decide +kernel)
set_option maxRecDepth 20000 in
theorem gL_law_X6_breed : GoodIn wsL_law (wsV RL 32 RX6 yX6_breed wsX6_breed) := goodIn_app (goodIn_of _ (by decide +kernel)) ggL_law_X6_breed
set_option maxRecDepth 20000 in
theorem ggL_law_X7_breed : GoodIn wsL_law wsX7_breed := goodIn_r _ [282, 92, 233, 234, 235, 5, 236, 166, 170, 171, 172, 736, 737, 738, 739, 740, 741, 742, 743, 744, 745, 746, 747, 748, 749, 750, 751, 752, 753, 754, 755, 756, 757, 758, 759, 760, 761, 762, 763, 764] (by decide +kernel) (by decide +kernel)
set_option maxRecDepth 20000 in
theorem gL_law_X7_breed : GoodIn wsL_law (wsV RL 35 RX7 yX7_breed wsX7_breed) := goodIn_app (goodIn_of _ (by decide +kernel)) ggL_law_X7_breed
set_option maxRecDepth 20000 in
theorem ggL_law_X6_door : GoodIn wsL_law wsX6_door := goodIn_r _ [286, 17, 150, 156, 157, 158, 2, 159, 106, 725, 726, 727, 728, 729, 730, 731, 732, 733, 734, 735, 765, 766, 767, 768, 769, 770] (by decide +kernel) (by decide +kernel)
set_option maxRecDepth 20000 in
theorem gL_law_X6_door : GoodIn wsL_law (wsV RL 36 RX6 yX6_door wsX6_door) := goodIn_app (goodIn_of _ (by decide +kernel)) ggL_law_X6_door
set_option maxRecDepth 20000 in
theorem ggL_law_X7_door : GoodIn wsL_law wsX7_door := goodIn_r _ [290, 211, 244, 245, 246, 5, 247, 166, 170, 171, 172, 736, 737, 738, 739, 740, 741, 742, 743, 744, 745, 746, 747, 748, 749, 750, 751, 752, 753, 754, 755, 756, 757, 758, 759, 760, 761, 762, 763, 764] (by decide +kernel) (by decide +kernel)
set_option maxRecDepth 20000 in
theorem gL_law_X7_door : GoodIn wsL_law (wsV RL 39 RX7 yX7_door wsX7_door) := goodIn_app (goodIn_of _ (by decide +kernel)) ggL_law_X7_door
set_option maxRecDepth 20000 in
theorem ggL_law_X6_say : GoodIn wsL_law wsX6_say := goodIn_r _ [294, 37, 17, 21, 150, 219, 220, 221, 2, 222, 106, 252, 253, 254, 255, 144, 295, 296, 297, 16, 298, 299, 47, 300, 147, 148, 149, 301, 302, 303, 304, 305, 306, 307, 308, 309, 310, 311, 45, 312, 313, 314, 315, 316, 317, 318, 319, 320, 321, 322, 20, 323, 55, 324, 224, 225, 226, 48, 49, 227, 228, 725, 726, 727, 728, 729, 730, 731, 732, 733, 734, 735, 765, 766, 767, 768, 769, 770, 771, 772] (by decide +kernel) (by decide +kernel)
set_option maxRecDepth 20000 in
theorem gL_law_X6_say : GoodIn wsL_law (wsV RL 40 RX6 yX6_say wsX6_say) := goodIn_app (goodIn_of _ (by decide +kernel)) ggL_law_X6_say
set_option maxRecDepth 20000 in
theorem ggL_law_X7_say : GoodIn wsL_law wsX7_say := goodIn_r _ [328, 212, 233, 234, 235, 5, 236, 166, 260, 261, 262, 263, 210, 329, 330, 331, 332, 333, 334, 335, 336, 91, 89, 337, 338, 339, 340, 211, 341, 342, 343, 344, 345, 346, 347, 213, 237, 238, 239, 240, 90, 92, 241, 242, 243, 736, 737, 738, 739, 740, 741, 742, 743, 744, 745, 746, 747, 748, 749, 750, 751, 752, 753, 754, 755, 756, 757, 758, 759, 760, 761, 762, 763, 764] (by decide +kernel) (by decide +kernel)
set_option maxRecDepth 20000 in
theorem gL_law_X7_say : GoodIn wsL_law (wsV RL 43 RX7 yX7_say wsX7_say) := goodIn_app (goodIn_of _ (by decide +kernel)) ggL_law_X7_say
set_option maxRecDepth 20000 in
theorem ggL_law_X6_hush : GoodIn wsL_law wsX6_hush := goodIn_r _ [351, 17, 21, 150, 37, 352, 353, 354, 2, 355, 106, 356, 305, 306, 16, 307, 308, 309, 310, 311, 45, 299, 312, 313, 148, 314, 315, 316, 317, 318, 319, 320, 321, 322, 20, 323, 55, 324, 224, 225, 226, 48, 49, 227, 228, 725, 726, 727, 728, 729, 730, 731, 732, 733, 734, 735, 765, 766, 767, 768, 769, 770, 771, 772] (by decide +kernel) (by decide +kernel)
set_option maxRecDepth 20000 in
theorem gL_law_X6_hush : GoodIn wsL_law (wsV RL 44 RX6 yX6_hush wsX6_hush) := goodIn_app (goodIn_of _ (by decide +kernel)) ggL_law_X6_hush
set_option maxRecDepth 20000 in
theorem ggL_law_X7_hush : GoodIn wsL_law wsX7_hush := goodIn_r _ [360, 166, 212, 170, 171, 5, 172, 337, 338, 339, 340, 91, 211, 341, 342, 343, 344, 345, 346, 347, 213, 237, 238, 239, 240, 90, 92, 241, 242, 243, 736, 737, 738, 739, 740, 741, 742, 743, 744, 745, 746, 747, 748, 749, 750, 751, 752, 753, 754, 755, 756, 757, 758, 759, 760, 761, 762, 763, 764] (by decide +kernel) (by decide +kernel)
set_option maxRecDepth 20000 in
theorem gL_law_X7_hush : GoodIn wsL_law (wsV RL 47 RX7 yX7_hush wsX7_hush) := goodIn_app (goodIn_of _ (by decide +kernel)) ggL_law_X7_hush
set_option maxRecDepth 20000 in
theorem ggL_law_X6_blow : GoodIn wsL_law wsX6_blow := goodIn_r _ [364, 21, 152, 17, 154, 219, 220, 221, 2, 222, 106, 365, 321, 322, 20, 323, 55, 223, 224, 225, 16, 226, 48, 49, 227, 228, 366, 367, 368, 369, 370, 371, 372, 725, 726, 727, 728, 729, 730, 731, 732, 733, 734, 735, 771, 772, 765, 766, 767, 768, 769, 770] (by decide +kernel) (by decide +kernel)
set_option maxRecDepth 20000 in
theorem gL_law_X6_blow : GoodIn wsL_law (wsV RL 48 RX6 yX6_blow wsX6_blow) := goodIn_app (goodIn_of _ (by decide +kernel)) ggL_law_X6_blow
set_option maxRecDepth 20000 in
theorem ggL_law_X7_blow : GoodIn wsL_law wsX7_blow := goodIn_r _ [376, 213, 91, 233, 234, 235, 5, 236, 166, 341, 342, 343, 237, 238, 239, 240, 90, 92, 241, 242, 243, 377, 378, 379, 736, 737, 738, 739, 740, 741, 742, 743, 744, 745, 746, 747, 748, 749, 750, 751, 752, 753, 754, 755, 756, 757, 758, 759, 760, 761, 762, 763, 764] (by decide +kernel) (by decide +kernel)
set_option maxRecDepth 20000 in
theorem gL_law_X7_blow : GoodIn wsL_law (wsV RL 51 RX7 yX7_blow wsX7_blow) := goodIn_app (goodIn_of _ (by decide +kernel)) ggL_law_X7_blow
set_option maxRecDepth 20000 in
theorem ggL_law_X6_shift : GoodIn wsL_law wsX6_shift := goodIn_r _ [383, 39, 13, 30, 21, 29, 384, 17, 150, 385, 386, 154, 152, 107, 108, 2, 109, 110, 111, 112, 387, 388, 389, 390, 391, 392, 393, 105, 113, 114, 115, 41, 116, 78, 79, 117, 118, 119, 120, 81, 121, 122, 123, 124, 352, 353, 354, 355, 106, 219, 220, 221, 222, 252, 253, 254, 255, 144, 394, 395, 396, 20, 397, 54, 398, 399, 400, 401, 55, 295, 296, 297, 16, 298, 299, 47, 300, 147, 148, 149, 301, 302, 303, 304, 305, 306, 307, 308, 309, 310, 311, 45, 312, 313, 314, 315, 316, 317, 318, 319, 320, 321, 322, 323, 324, 224, 225, 226, 48, 49, 227, 228, 366, 367, 368, 369, 370, 371, 372, 402, 403, 404, 405, 725, 726, 727, 728, 729, 730, 731, 732, 733, 734, 735, 777, 778, 779, 765, 766, 767, 768, 769, 770, 771, 772, 783, 784, 785, 786] (by decide +kernel) (by decide +kernel)
set_option maxRecDepth 20000 in
theorem gL_law_X6_shift : GoodIn wsL_law (wsV RL 52 RX6 yX6_shift wsX6_shift) := goodIn_app (goodIn_of _ (by decide +kernel)) ggL_law_X6_shift
set_option maxRecDepth 20000 in
theorem ggL_law_X7_shift : GoodIn wsL_law wsX7_shift := goodIn_r _ [409, 164, 170, 171, 5, 172, 410, 411, 412, 413, 166, 167, 168, 169, 173, 174, 175, 176, 177, 178, 179, 86, 87, 180, 181, 182, 183, 414, 415, 416, 417, 88, 233, 234, 235, 236, 260, 261, 262, 263, 210, 418, 419, 420, 421, 213, 422, 95, 91, 423, 424, 425, 426, 427, 428, 329, 330, 331, 332, 333, 334, 335, 336, 89, 337, 338, 339, 340, 211, 341, 342, 343, 344, 345, 346, 347, 237, 238, 239, 240, 90, 92, 241, 242, 243, 377, 378, 379, 429, 430, 431, 432, 433, 434, 435, 436, 736, 737, 738, 739, 740, 741, 742, 743, 744, 745, 746, 747, 748, 749, 750, 751, 752, 753, 754, 755, 756, 757, 758, 759, 760, 761, 762, 763, 764] (by decide +kernel) (by decide +kernel)
set_option maxRecDepth 20000 in
theorem gL_law_X7_shift : GoodIn wsL_law (wsV RL 56 RX7 yX7_shift wsX7_shift) := goodIn_app (goodIn_of _ (by decide +kernel)) ggL_law_X7_shift
set_option maxRecDepth 20000 in
theorem ggL_law_X6_order : GoodIn wsL_law wsX6_order := goodIn_r _ [440, 39, 13, 29, 384, 30, 21, 17, 32, 107, 108, 2, 109, 110, 111, 112, 390, 391, 392, 393, 105, 385, 386, 113, 114, 115, 41, 116, 78, 79, 117, 118, 119, 120, 81, 121, 122, 123, 124, 352, 353, 354, 355, 106, 219, 220, 221, 222, 252, 253, 254, 255, 144, 394, 395, 396, 20, 397, 54, 398, 399, 400, 401, 55, 441, 442, 443, 150, 295, 296, 297, 16, 298, 299, 47, 300, 147, 148, 149, 301, 302, 303, 304, 305, 306, 307, 308, 309, 310, 311, 45, 312, 313, 314, 315, 316, 317, 318, 319, 320, 321, 322, 323, 324, 224, 225, 226, 48, 49, 227, 228, 725, 726, 727, 728, 729, 730, 731, 732, 733, 734, 735, 777, 778, 779, 783, 784, 785, 786, 765, 766, 767, 768, 769, 770, 771, 772] (by decide +kernel) (by decide +kernel)
set_option maxRecDepth 20000 in
theorem gL_law_X6_order : GoodIn wsL_law (wsV RL 57 RX6 yX6_order wsX6_order) := goodIn_app (goodIn_of _ (by decide +kernel)) ggL_law_X6_order
set_option maxRecDepth 20000 in
theorem ggL_law_X7_order : GoodIn wsL_law wsX7_order := goodIn_r _ [447, 164, 96, 170, 171, 5, 172, 410, 411, 412, 413, 166, 167, 168, 169, 173, 174, 175, 176, 177, 178, 179, 86, 87, 180, 181, 182, 183, 414, 415, 416, 417, 88, 233, 234, 235, 236, 260, 261, 262, 263, 210, 448, 449, 450, 451, 452, 453, 454, 341, 342, 343, 455, 456, 457, 458, 418, 419, 420, 421, 213, 422, 95, 91, 329, 330, 331, 332, 333, 334, 335, 336, 89, 337, 338, 339, 340, 211, 344, 345, 346, 347, 237, 238, 239, 240, 90, 92, 241, 242, 243, 433, 434, 435, 436, 736, 737, 738, 739, 740, 741, 742, 743, 744, 745, 746, 747, 748, 749, 750, 751, 752, 753, 754, 755, 756, 757, 758, 759, 760, 761, 762, 763, 764] (by decide +kernel) (by decide +kernel)
set_option maxRecDepth 20000 in
theorem gL_law_X7_order : GoodIn wsL_law (wsV RL 60 RX7 yX7_order wsX7_order) := goodIn_app (goodIn_of _ (by decide +kernel)) ggL_law_X7_order
set_option maxRecDepth 20000 in
theorem ggL_law_X6_shut : GoodIn wsL_law wsX6_shut := goodIn_r _ [462, 39, 13, 17, 106, 107, 108, 2, 109, 110, 111, 112, 390, 391, 392, 393, 105, 29, 385, 386, 384, 113, 114, 115, 41, 116, 78, 79, 117, 118, 119, 120, 81, 121, 122, 123, 124, 352, 353, 354, 355, 219, 220, 221, 222, 252, 253, 254, 255, 144, 463, 464, 465, 466, 30, 21, 394, 395, 396, 20, 397, 54, 398, 399, 400, 401, 55, 295, 296, 297, 16, 298, 299, 47, 300, 147, 148, 149, 301, 302, 303, 304, 305, 306, 307, 308, 309, 310, 311, 45, 312, 313, 314, 315, 316, 317, 318, 319, 320, 321, 322, 323, 324, 224, 225, 226, 48, 49, 227, 228, 366, 367, 368, 369, 370, 371, 372, 725, 726, 727, 728, 729, 730, 731, 732, 733, 734, 735, 765, 766, 767, 768, 769, 770, 783, 784, 785, 786, 777, 778, 779, 771, 772] (by decide +kernel) (by decide +kernel)
set_option maxRecDepth 20000 in
theorem gL_law_X6_shut : GoodIn wsL_law (wsV RL 61 RX6 yX6_shut wsX6_shut) := goodIn_app (goodIn_of _ (by decide +kernel)) ggL_law_X6_shut
set_option maxRecDepth 20000 in
theorem ggL_law_X7_shut : GoodIn wsL_law wsX7_shut := goodIn_r _ [470, 164, 211, 166, 427, 170, 171, 5, 172, 410, 411, 412, 413, 167, 168, 169, 173, 174, 175, 176, 177, 178, 179, 86, 87, 180, 181, 182, 183, 414, 415, 416, 417, 88, 233, 234, 235, 236, 260, 261, 262, 263, 210, 418, 419, 420, 421, 213, 422, 95, 91, 423, 424, 425, 426, 428, 329, 330, 331, 332, 333, 334, 335, 336, 89, 337, 338, 339, 340, 341, 342, 343, 344, 345, 346, 347, 237, 238, 239, 240, 90, 92, 241, 242, 243, 377, 378, 379, 433, 434, 435, 436, 736, 737, 738, 739, 740, 741, 742, 743, 744, 745, 746, 747, 748, 749, 750, 751, 752, 753, 754, 755, 756, 757, 758, 759, 760, 761, 762, 763, 764] (by decide +kernel) (by decide +kernel)
set_option maxRecDepth 20000 in
theorem gL_law_X7_shut : GoodIn wsL_law (wsV RL 64 RX7 yX7_shut wsX7_shut) := goodIn_app (goodIn_of _ (by decide +kernel)) ggL_law_X7_shut
set_option maxRecDepth 20000 in
theorem ggL_law_X6_rests : GoodIn wsL_law wsX6_rests := goodIn_r _ [474, 30, 21, 17, 150, 352, 353, 354, 2, 355, 106, 394, 395, 396, 20, 397, 54, 398, 399, 400, 401, 55, 475, 309, 310, 16, 311, 45, 299, 312, 313, 148, 314, 725, 726, 727, 728, 729, 730, 731, 732, 733, 734, 735, 765, 766, 767, 768, 769, 770, 771, 772] (by decide +kernel) (by decide +kernel)
set_option maxRecDepth 20000 in
theorem gL_law_X6_rests : GoodIn wsL_law (wsV RL 65 RX6 yX6_rests wsX6_rests) := goodIn_app (goodIn_of _ (by decide +kernel)) ggL_law_X6_rests
set_option maxRecDepth 20000 in
theorem ggL_law_X7_rests : GoodIn wsL_law wsX7_rests := goodIn_r _ [479, 166, 418, 419, 420, 5, 421, 213, 422, 95, 91, 337, 338, 339, 340, 211, 341, 342, 343, 433, 434, 435, 436, 736, 737, 738, 739, 740, 741, 742, 743, 744, 745, 746, 747, 748, 749, 750, 751, 752, 753, 754, 755, 756, 757, 758, 759, 760, 761, 762, 763, 764] (by decide +kernel) (by decide +kernel)
set_option maxRecDepth 20000 in
theorem gL_law_X7_rests : GoodIn wsL_law (wsV RL 69 RX7 yX7_rests wsX7_rests) := goodIn_app (goodIn_of _ (by decide +kernel)) ggL_law_X7_rests
set_option maxRecDepth 20000 in
theorem ggL_law_X6_clears : GoodIn wsL_law wsX6_clears := goodIn_r _ [483, 30, 21, 152, 17, 150, 219, 220, 221, 2, 222, 106, 268, 269, 270, 394, 395, 396, 20, 397, 54, 398, 399, 400, 401, 55, 475, 309, 310, 16, 311, 45, 299, 312, 313, 148, 314, 725, 726, 727, 728, 729, 730, 731, 732, 733, 734, 735, 771, 772, 765, 766, 767, 768, 769, 770] (by decide +kernel) (by decide +kernel)
set_option maxRecDepth 20000 in
theorem gL_law_X6_clears : GoodIn wsL_law (wsV RL 70 RX6 yX6_clears wsX6_clears) := goodIn_app (goodIn_of _ (by decide +kernel)) ggL_law_X6_clears
set_option maxRecDepth 20000 in
theorem ggL_law_X7_clears : GoodIn wsL_law wsX7_clears := goodIn_r _ [487, 91, 233, 234, 235, 5, 236, 166, 170, 171, 172, 418, 419, 420, 421, 213, 422, 95, 337, 338, 339, 340, 211, 341, 342, 343, 433, 434, 435, 436, 736, 737, 738, 739, 740, 741, 742, 743, 744, 745, 746, 747, 748, 749, 750, 751, 752, 753, 754, 755, 756, 757, 758, 759, 760, 761, 762, 763, 764] (by decide +kernel) (by decide +kernel)
set_option maxRecDepth 20000 in
theorem gL_law_X7_clears : GoodIn wsL_law (wsV RL 73 RX7 yX7_clears wsX7_clears) := goodIn_app (goodIn_of _ (by decide +kernel)) ggL_law_X7_clears
set_option maxRecDepth 20000 in
theorem ggL_law_X6_perches : GoodIn wsL_law wsX6_perches := goodIn_r _ [491, 17, 106, 36, 492, 21, 493, 352, 353, 354, 2, 355, 494, 495, 496, 497, 152, 498, 499, 500, 35, 501, 74, 72, 73, 502, 399, 400, 401, 223, 224, 225, 16, 226, 48, 49, 227, 228, 725, 726, 727, 728, 729, 730, 731, 732, 733, 734, 735, 765, 766, 767, 768, 769, 770, 780, 781, 782, 771, 772] (by decide +kernel) (by decide +kernel)
set_option maxRecDepth 20000 in
theorem gL_law_X6_perches : GoodIn wsL_law (wsV RL 74 RX6 yX6_perches wsX6_perches) := goodIn_app (goodIn_of _ (by decide +kernel)) ggL_law_X6_perches
set_option maxRecDepth 20000 in
theorem ggL_law_X7_perches : GoodIn wsL_law wsX7_perches := goodIn_r _ [506, 166, 97, 170, 171, 5, 172, 507, 508, 509, 510, 91, 96, 448, 449, 450, 451, 452, 453, 454, 341, 342, 343, 237, 238, 239, 240, 90, 92, 241, 242, 243, 233, 234, 235, 236, 736, 737, 738, 739, 740, 741, 742, 743, 744, 745, 746, 747, 748, 749, 750, 751, 752, 753, 754, 755, 756, 757, 758, 759, 760, 761, 762, 763, 764] (by decide +kernel) (by decide +kernel)
set_option maxRecDepth 20000 in
theorem gL_law_X7_perches : GoodIn wsL_law (wsV RL 77 RX7 yX7_perches wsX7_perches) := goodIn_app (goodIn_of _ (by decide +kernel)) ggL_law_X7_perches
set_option maxRecDepth 20000 in
theorem ggL_law_X6_found : GoodIn wsL_law wsX6_found := goodIn_r _ [514, 39, 13, 17, 106, 144, 105, 107, 108, 2, 109, 110, 111, 112, 352, 353, 354, 355, 113, 114, 115, 41, 116, 78, 79, 117, 118, 119, 120, 81, 121, 122, 123, 124, 515, 516, 517, 518, 30, 21, 150, 394, 395, 396, 20, 397, 54, 398, 399, 400, 401, 55, 295, 296, 297, 16, 298, 299, 47, 300, 147, 148, 149, 301, 302, 303, 304, 305, 306, 307, 308, 309, 310, 311, 45, 312, 313, 314, 315, 316, 317, 318, 319, 320, 321, 322, 323, 324, 224, 225, 226, 48, 49, 227, 228, 519, 520, 521, 522, 152, 725, 726, 727, 728, 729, 730, 731, 732, 733, 734, 735, 765, 766, 767, 768, 769, 770, 783, 784, 785, 786, 771, 772] (by decide +kernel) (by decide +kernel)
set_option maxRecDepth 20000 in
theorem gL_law_X6_found : GoodIn wsL_law (wsV RL 78 RX6 yX6_found wsX6_found) := goodIn_app (goodIn_of _ (by decide +kernel)) ggL_law_X6_found
set_option maxRecDepth 20000 in
theorem ggL_law_X7_found : GoodIn wsL_law wsX7_found := goodIn_r _ [526, 164, 166, 210, 167, 168, 5, 169, 170, 171, 172, 173, 174, 175, 176, 177, 178, 179, 86, 87, 180, 181, 182, 183, 527, 528, 529, 530, 91, 88, 418, 419, 420, 421, 213, 422, 95, 329, 330, 331, 332, 333, 334, 335, 336, 89, 337, 338, 339, 340, 211, 341, 342, 343, 344, 345, 346, 347, 237, 238, 239, 240, 90, 92, 241, 242, 243, 433, 434, 435, 436, 736, 737, 738, 739, 740, 741, 742, 743, 744, 745, 746, 747, 748, 749, 750, 751, 752, 753, 754, 755, 756, 757, 758, 759, 760, 761, 762, 763, 764] (by decide +kernel) (by decide +kernel)
set_option maxRecDepth 20000 in
theorem gL_law_X7_found : GoodIn wsL_law (wsV RL 81 RX7 yX7_found wsX7_found) := goodIn_app (goodIn_of _ (by decide +kernel)) ggL_law_X7_found
set_option maxRecDepth 20000 in
theorem ggL_law_X6_reading : GoodIn wsL_law wsX6_reading := goodIn_r _ [534, 25, 155, 219, 220, 221, 2, 222, 17, 106, 268, 269, 270, 535, 536, 537, 24, 538, 59, 60, 61, 62, 725, 726, 727, 728, 729, 730, 731, 732, 733, 734, 735, 773, 774, 775, 776, 765, 766, 767, 768, 769, 770] (by decide +kernel) (by decide +kernel)
set_option maxRecDepth 20000 in
theorem gL_law_X6_reading : GoodIn wsL_law (wsV RL 82 RX6 yX6_reading wsX6_reading) := goodIn_app (goodIn_of _ (by decide +kernel)) ggL_law_X6_reading
set_option maxRecDepth 20000 in
theorem ggL_law_X7_reading : GoodIn wsL_law wsX7_reading := goodIn_r _ [542, 214, 98, 99, 100, 233, 234, 235, 5, 236, 166, 170, 171, 172, 736, 737, 738, 739, 740, 741, 742, 743, 744, 745, 746, 747, 748, 749, 750, 751, 752, 753, 754, 755, 756, 757, 758, 759, 760, 761, 762, 763, 764] (by decide +kernel) (by decide +kernel)
set_option maxRecDepth 20000 in
theorem gL_law_X7_reading : GoodIn wsL_law (wsV RL 86 RX7 yX7_reading wsX7_reading) := goodIn_app (goodIn_of _ (by decide +kernel)) ggL_law_X7_reading
set_option maxRecDepth 20000 in
theorem ggL_law_X6_back : GoodIn wsL_law wsX6_back := goodIn_r _ [546, 25, 155, 725, 726, 727, 728, 729, 730, 731, 732, 733, 734, 735, 773, 774, 775, 776] (by decide +kernel) (by decide +kernel)
set_option maxRecDepth 20000 in
theorem gL_law_X6_back : GoodIn wsL_law (wsV RL 87 RX6 yX6_back wsX6_back) := goodIn_app (goodIn_of _ (by decide +kernel)) ggL_law_X6_back
set_option maxRecDepth 20000 in
theorem ggL_law_X7_back : GoodIn wsL_law wsX7_back := goodIn_r _ [550, 214, 170, 171, 5, 172, 736, 737, 738, 739, 740, 741, 742, 743, 744, 745, 746, 747, 748, 749, 750, 751, 752, 753, 754, 755, 756, 757, 758, 759, 760, 761, 762, 763, 764] (by decide +kernel) (by decide +kernel)
set_option maxRecDepth 20000 in
theorem gL_law_X7_back : GoodIn wsL_law (wsV RL 90 RX7 yX7_back wsX7_back) := goodIn_app (goodIn_of _ (by decide +kernel)) ggL_law_X7_back
set_option maxRecDepth 20000 in
theorem ggL_law_X6_strengths : GoodIn wsL_law wsX6_strengths := goodIn_r _ [554, 25, 17, 151, 219, 220, 221, 2, 222, 106, 555, 227, 228, 556, 557, 558, 24, 559, 59, 60, 61, 62, 560, 224, 225, 16, 226, 48, 49, 725, 726, 727, 728, 729, 730, 731, 732, 733, 734, 735, 765, 766, 767, 768, 769, 770, 773, 774, 775, 776] (by decide +kernel) (by decide +kernel)
set_option maxRecDepth 20000 in
theorem gL_law_X6_strengths : GoodIn wsL_law (wsV RL 91 RX6 yX6_strengths wsX6_strengths) := goodIn_app (goodIn_of _ (by decide +kernel)) ggL_law_X6_strengths
set_option maxRecDepth 20000 in
theorem ggL_law_X7_strengths : GoodIn wsL_law wsX7_strengths := goodIn_r _ [564, 92, 233, 234, 235, 5, 236, 166, 565, 566, 567, 568, 214, 99, 98, 100, 237, 238, 239, 240, 90, 241, 242, 243, 736, 737, 738, 739, 740, 741, 742, 743, 744, 745, 746, 747, 748, 749, 750, 751, 752, 753, 754, 755, 756, 757, 758, 759, 760, 761, 762, 763, 764] (by decide +kernel) (by decide +kernel)
set_option maxRecDepth 20000 in
theorem gL_law_X7_strengths : GoodIn wsL_law (wsV RL 94 RX7 yX7_strengths wsX7_strengths) := goodIn_app (goodIn_of _ (by decide +kernel)) ggL_law_X7_strengths
set_option maxRecDepth 20000 in
theorem ggL_law_X6_kinds : GoodIn wsL_law wsX6_kinds := goodIn_r _ [572, 25, 17, 153, 219, 220, 221, 2, 222, 106, 555, 227, 228, 556, 557, 558, 24, 559, 59, 60, 61, 62, 560, 224, 225, 16, 226, 48, 49, 725, 726, 727, 728, 729, 730, 731, 732, 733, 734, 735, 765, 766, 767, 768, 769, 770, 773, 774, 775, 776] (by decide +kernel) (by decide +kernel)
set_option maxRecDepth 20000 in
theorem gL_law_X6_kinds : GoodIn wsL_law (wsV RL 95 RX6 yX6_kinds wsX6_kinds) := goodIn_app (goodIn_of _ (by decide +kernel)) ggL_law_X6_kinds
set_option maxRecDepth 20000 in
theorem ggL_law_X7_kinds : GoodIn wsL_law wsX7_kinds := goodIn_r _ [576, 90, 233, 234, 235, 5, 236, 166, 565, 566, 567, 568, 214, 99, 98, 100, 237, 238, 239, 240, 92, 241, 242, 243, 736, 737, 738, 739, 740, 741, 742, 743, 744, 745, 746, 747, 748, 749, 750, 751, 752, 753, 754, 755, 756, 757, 758, 759, 760, 761, 762, 763, 764] (by decide +kernel) (by decide +kernel)
set_option maxRecDepth 20000 in
theorem gL_law_X7_kinds : GoodIn wsL_law (wsV RL 98 RX7 yX7_kinds wsX7_kinds) := goodIn_app (goodIn_of _ (by decide +kernel)) ggL_law_X7_kinds
set_option maxRecDepth 20000 in
theorem ggL_law_X6_odds : GoodIn wsL_law wsX6_odds := goodIn_r _ [580, 581, 17, 106, 144, 219, 220, 221, 2, 222, 515, 516, 517, 518, 30, 21, 150, 394, 395, 396, 20, 397, 54, 398, 399, 400, 401, 55, 295, 296, 297, 16, 298, 299, 47, 300, 147, 148, 149, 301, 302, 303, 304, 305, 306, 307, 308, 309, 310, 311, 45, 312, 313, 314, 315, 316, 317, 318, 319, 320, 321, 322, 323, 324, 224, 225, 226, 48, 49, 227, 228, 365, 582, 583, 584, 725, 726, 727, 728, 729, 730, 731, 732, 733, 734, 735, 765, 766, 767, 768, 769, 770, 771, 772] (by decide +kernel) (by decide +kernel)
set_option maxRecDepth 20000 in
theorem gL_law_X6_odds : GoodIn wsL_law (wsV RL 99 RX6 yX6_odds wsX6_odds) := goodIn_app (goodIn_of _ (by decide +kernel)) ggL_law_X6_odds
set_option maxRecDepth 20000 in
theorem ggL_law_X7_odds : GoodIn wsL_law wsX7_odds := goodIn_r _ [588, 589, 166, 210, 213, 233, 234, 235, 5, 236, 170, 171, 172, 418, 419, 420, 421, 422, 95, 91, 329, 330, 331, 332, 333, 334, 335, 336, 89, 337, 338, 339, 340, 211, 341, 342, 343, 344, 345, 346, 347, 237, 238, 239, 240, 90, 92, 241, 242, 243, 433, 434, 435, 436, 590, 591, 592, 736, 737, 738, 739, 740, 741, 742, 743, 744, 745, 746, 747, 748, 749, 750, 751, 752, 753, 754, 755, 756, 757, 758, 759, 760, 761, 762, 763, 764] (by decide +kernel) (by decide +kernel)
set_option maxRecDepth 20000 in
theorem gL_law_X7_odds : GoodIn wsL_law (wsV RL 103 RX7 yX7_odds wsX7_odds) := goodIn_app (goodIn_of _ (by decide +kernel)) ggL_law_X7_odds
set_option maxRecDepth 20000 in
theorem ggL_law_X6_sheet : GoodIn wsL_law wsX6_sheet := goodIn_r _ [596, 39, 13, 107, 108, 2, 109, 110, 111, 112, 121, 122, 123, 124, 597, 598, 599, 41, 600, 78, 79, 81, 80, 725, 726, 727, 728, 729, 730, 731, 732, 733, 734, 735, 783, 784, 785, 786] (by decide +kernel) (by decide +kernel)
set_option maxRecDepth 20000 in
theorem gL_law_X6_sheet : GoodIn wsL_law (wsV RL 104 RX6 yX6_sheet wsX6_sheet) := goodIn_app (goodIn_of _ (by decide +kernel)) ggL_law_X6_sheet
set_option maxRecDepth 20000 in
theorem ggL_law_X7_sheet : GoodIn wsL_law wsX7_sheet := goodIn_r _ [604, 164, 86, 87, 88, 167, 168, 5, 169, 170, 171, 172, 173, 174, 175, 180, 181, 182, 183, 736, 737, 738, 739, 740, 741, 742, 743, 744, 745, 746, 747, 748, 749, 750, 751, 752, 753, 754, 755, 756, 757, 758, 759, 760, 761, 762, 763, 764] (by decide +kernel) (by decide +kernel)
set_option maxRecDepth 20000 in
theorem gL_law_X7_sheet : GoodIn wsL_law (wsV RL 107 RX7 yX7_sheet wsX7_sheet) := goodIn_app (goodIn_of _ (by decide +kernel)) ggL_law_X7_sheet
set_option maxRecDepth 20000 in
theorem ggL_law_X6_lose : GoodIn wsL_law wsX6_lose := goodIn_r _ [608, 13, 609, 107, 108, 2, 109, 725, 726, 727, 728, 729, 730, 731, 732, 733, 734, 735, 783, 784, 785, 786] (by decide +kernel) (by decide +kernel)
set_option maxRecDepth 20000 in
theorem gL_law_X6_lose : GoodIn wsL_law (wsV RL 108 RX6 yX6_lose wsX6_lose) := goodIn_app (goodIn_of _ (by decide +kernel)) ggL_law_X6_lose
set_option maxRecDepth 20000 in
theorem ggL_law_X7_lose : GoodIn wsL_law wsX7_lose := goodIn_r _ [613, 86, 167, 168, 5, 169, 170, 171, 172, 736, 737, 738, 739, 740, 741, 742, 743, 744, 745, 746, 747, 748, 749, 750, 751, 752, 753, 754, 755, 756, 757, 758, 759, 760, 761, 762, 763, 764] (by decide +kernel) (by decide +kernel)
set_option maxRecDepth 20000 in
theorem gL_law_X7_lose : GoodIn wsL_law (wsV RL 111 RX7 yX7_lose wsX7_lose) := goodIn_app (goodIn_of _ (by decide +kernel)) ggL_law_X7_lose
set_option maxRecDepth 20000 in
theorem ggL_law_X6_put : GoodIn wsL_law wsX6_put := goodIn_r _ [617, 39, 13, 618, 105, 107, 108, 2, 109, 113, 114, 115, 41, 116, 78, 79, 117, 118, 119, 120, 81, 121, 122, 123, 124, 619, 620, 621, 725, 726, 727, 728, 729, 730, 731, 732, 733, 734, 735, 783, 784, 785, 786] (by decide +kernel) (by decide +kernel)
set_option maxRecDepth 20000 in
theorem gL_law_X6_put : GoodIn wsL_law (wsV RL 112 RX6 yX6_put wsX6_put) := goodIn_app (goodIn_of _ (by decide +kernel)) ggL_law_X6_put
set_option maxRecDepth 20000 in
theorem ggL_law_X7_put : GoodIn wsL_law wsX7_put := goodIn_r _ [625, 164, 86, 87, 88, 167, 168, 5, 169, 170, 171, 172, 180, 181, 182, 183, 736, 737, 738, 739, 740, 741, 742, 743, 744, 745, 746, 747, 748, 749, 750, 751, 752, 753, 754, 755, 756, 757, 758, 759, 760, 761, 762, 763, 764] (by decide +kernel) (by decide +kernel)
set_option maxRecDepth 20000 in
theorem gL_law_X7_put : GoodIn wsL_law (wsV RL 115 RX7 yX7_put wsX7_put) := goodIn_app (goodIn_of _ (by decide +kernel)) ggL_law_X7_put
set_option maxRecDepth 20000 in
theorem ggL_law_X6_cell : GoodIn wsL_law wsX6_cell := goodIn_r _ [629, 39, 581, 13, 105, 107, 108, 2, 109, 110, 111, 112, 113, 114, 115, 41, 116, 78, 79, 117, 118, 119, 120, 81, 121, 122, 123, 124, 725, 726, 727, 728, 729, 730, 731, 732, 733, 734, 735, 783, 784, 785, 786] (by decide +kernel) (by decide +kernel)
set_option maxRecDepth 20000 in
theorem gL_law_X6_cell : GoodIn wsL_law (wsV RL 116 RX6 yX6_cell wsX6_cell) := goodIn_app (goodIn_of _ (by decide +kernel)) ggL_law_X6_cell
set_option maxRecDepth 20000 in
theorem ggL_law_X7_cell : GoodIn wsL_law wsX7_cell := goodIn_r _ [633, 164, 589, 86, 87, 88, 167, 168, 5, 169, 170, 171, 172, 173, 174, 175, 634, 635, 636, 637, 736, 737, 738, 739, 740, 741, 742, 743, 744, 745, 746, 747, 748, 749, 750, 751, 752, 753, 754, 755, 756, 757, 758, 759, 760, 761, 762, 763, 764] (by decide +kernel) (by decide +kernel)
set_option maxRecDepth 20000 in
theorem gL_law_X7_cell : GoodIn wsL_law (wsV RL 120 RX7 yX7_cell wsX7_cell) := goodIn_app (goodIn_of _ (by decide +kernel)) ggL_law_X7_cell
set_option maxRecDepth 20000 in
theorem ggL_law_X6_copy : GoodIn wsL_law wsX6_copy := goodIn_r _ [641, 39, 13, 609, 618, 105, 642, 399, 400, 401, 107, 108, 2, 109, 121, 122, 123, 124, 643, 118, 119, 41, 120, 81, 725, 726, 727, 728, 729, 730, 731, 732, 733, 734, 735, 783, 784, 785, 786] (by decide +kernel) (by decide +kernel)
set_option maxRecDepth 20000 in
theorem gL_law_X6_copy : GoodIn wsL_law (wsV RL 121 RX6 yX6_copy wsX6_copy) := goodIn_app (goodIn_of _ (by decide +kernel)) ggL_law_X6_copy
set_option maxRecDepth 20000 in
theorem ggL_law_X7_copy : GoodIn wsL_law wsX7_copy := goodIn_r _ [647, 164, 86, 87, 88, 167, 168, 5, 169, 170, 171, 172, 180, 181, 182, 183, 736, 737, 738, 739, 740, 741, 742, 743, 744, 745, 746, 747, 748, 749, 750, 751, 752, 753, 754, 755, 756, 757, 758, 759, 760, 761, 762, 763, 764] (by decide +kernel) (by decide +kernel)
set_option maxRecDepth 20000 in
theorem gL_law_X7_copy : GoodIn wsL_law (wsV RL 124 RX7 yX7_copy wsX7_copy) := goodIn_app (goodIn_of _ (by decide +kernel)) ggL_law_X7_copy
set_option maxRecDepth 20000 in
theorem ggL_law_X6_tell : GoodIn wsL_law wsX6_tell := goodIn_r _ [651, 17, 151, 219, 220, 221, 2, 222, 106, 652, 653, 654, 655, 656, 657, 658, 659, 38, 660, 661, 662, 663, 664, 665, 666, 667, 153, 725, 726, 727, 728, 729, 730, 731, 732, 733, 734, 735, 765, 766, 767, 768, 769, 770] (by decide +kernel) (by decide +kernel)
set_option maxRecDepth 20000 in
theorem gL_law_X6_tell : GoodIn wsL_law (wsV RL 125 RX6 yX6_tell wsX6_tell) := goodIn_app (goodIn_of _ (by decide +kernel)) ggL_law_X6_tell
set_option maxRecDepth 20000 in
theorem ggL_law_X7_tell : GoodIn wsL_law wsX7_tell := goodIn_r _ [671, 92, 90, 233, 234, 235, 5, 236, 166, 672, 673, 674, 675, 676, 736, 737, 738, 739, 740, 741, 742, 743, 744, 745, 746, 747, 748, 749, 750, 751, 752, 753, 754, 755, 756, 757, 758, 759, 760, 761, 762, 763, 764] (by decide +kernel) (by decide +kernel)
set_option maxRecDepth 20000 in
theorem gL_law_X7_tell : GoodIn wsL_law (wsV RL 128 RX7 yX7_tell wsX7_tell) := goodIn_app (goodIn_of _ (by decide +kernel)) ggL_law_X7_tell
set_option maxRecDepth 20000 in
theorem ggL_law_X6_sign : GoodIn wsL_law wsX6_sign := goodIn_r _ [680, 17, 151, 219, 220, 221, 2, 222, 106, 681, 682, 683, 684, 656, 657, 658, 659, 38, 685, 686, 687, 688, 725, 726, 727, 728, 729, 730, 731, 732, 733, 734, 735, 765, 766, 767, 768, 769, 770] (by decide +kernel) (by decide +kernel)
set_option maxRecDepth 20000 in
theorem gL_law_X6_sign : GoodIn wsL_law (wsV RL 129 RX6 yX6_sign wsX6_sign) := goodIn_app (goodIn_of _ (by decide +kernel)) ggL_law_X6_sign
set_option maxRecDepth 20000 in
theorem ggL_law_X7_sign : GoodIn wsL_law wsX7_sign := goodIn_r _ [692, 90, 233, 234, 235, 5, 236, 166, 672, 673, 674, 675, 676, 736, 737, 738, 739, 740, 741, 742, 743, 744, 745, 746, 747, 748, 749, 750, 751, 752, 753, 754, 755, 756, 757, 758, 759, 760, 761, 762, 763, 764] (by decide +kernel) (by decide +kernel)
set_option maxRecDepth 20000 in
theorem gL_law_X7_sign : GoodIn wsL_law (wsV RL 132 RX7 yX7_sign wsX7_sign) := goodIn_app (goodIn_of _ (by decide +kernel)) ggL_law_X7_sign
set_option maxRecDepth 20000 in
theorem ggL_law_X6_as : GoodIn wsL_law wsX6_as := goodIn_r _ [696, 39, 17, 151, 219, 220, 221, 2, 222, 106, 121, 122, 123, 124, 725, 726, 727, 728, 729, 730, 731, 732, 733, 734, 735, 765, 766, 767, 768, 769, 770] (by decide +kernel) (by decide +kernel)
set_option maxRecDepth 20000 in
theorem gL_law_X6_as : GoodIn wsL_law (wsV RL 133 RX6 yX6_as wsX6_as) := goodIn_app (goodIn_of _ (by decide +kernel)) ggL_law_X6_as
set_option maxRecDepth 20000 in
theorem ggL_law_X7_as : GoodIn wsL_law wsX7_as := goodIn_r _ [700, 164, 90, 233, 234, 235, 5, 236, 166, 170, 171, 172, 180, 181, 182, 183, 736, 737, 738, 739, 740, 741, 742, 743, 744, 745, 746, 747, 748, 749, 750, 751, 752, 753, 754, 755, 756, 757, 758, 759, 760, 761, 762, 763, 764] (by decide +kernel) (by decide +kernel)
set_option maxRecDepth 20000 in
theorem gL_law_X7_as : GoodIn wsL_law (wsV RL 136 RX7 yX7_as wsX7_as) := goodIn_app (goodIn_of _ (by decide +kernel)) ggL_law_X7_as
set_option maxRecDepth 20000 in
theorem ggL_law_X6_trace : GoodIn wsL_law wsX6_trace := goodIn_r _ [704, 38, 725, 726, 727, 728, 729, 730, 731, 732, 733, 734, 735] (by decide +kernel) (by decide +kernel)
set_option maxRecDepth 20000 in
theorem gL_law_X6_trace : GoodIn wsL_law (wsV RL 137 RX6 yX6_trace wsX6_trace) := goodIn_app (goodIn_of _ (by decide +kernel)) ggL_law_X6_trace
set_option maxRecDepth 20000 in
theorem ggL_law_X7_trace : GoodIn wsL_law wsX7_trace := goodIn_r _ [708, 676, 736, 737, 738, 739, 740, 741, 742, 743, 744, 745, 746, 747, 748, 749, 750, 751, 752, 753, 754, 755, 756, 757, 758, 759, 760, 761, 762, 763, 764] (by decide +kernel) (by decide +kernel)
set_option maxRecDepth 20000 in
theorem gL_law_X7_trace : GoodIn wsL_law (wsV RL 140 RX7 yX7_trace wsX7_trace) := goodIn_app (goodIn_of _ (by decide +kernel)) ggL_law_X7_trace
set_option maxRecDepth 20000 in
theorem ggL_law_X6_fault : GoodIn wsL_law wsX6_fault := goodIn_r _ [712, 39, 725, 726, 727, 728, 729, 730, 731, 732, 733, 734, 735] (by decide +kernel) (by decide +kernel)
set_option maxRecDepth 20000 in
theorem gL_law_X6_fault : GoodIn wsL_law (wsV RL 141 RX6 yX6_fault wsX6_fault) := goodIn_app (goodIn_of _ (by decide +kernel)) ggL_law_X6_fault
set_option maxRecDepth 20000 in
theorem ggL_law_X7_fault : GoodIn wsL_law wsX7_fault := goodIn_r _ [716, 164, 736, 737, 738, 739, 740, 741, 742, 743, 744, 745, 746, 747, 748, 749, 750, 751, 752, 753, 754, 755, 756, 757, 758, 759, 760, 761, 762, 763, 764] (by decide +kernel) (by decide +kernel)
set_option maxRecDepth 20000 in
theorem gL_law_X7_fault : GoodIn wsL_law (wsV RL 144 RX7 yX7_fault wsX7_fault) := goodIn_app (goodIn_of _ (by decide +kernel)) ggL_law_X7_fault
set_option maxRecDepth 20000 in
theorem ggL_law_X6_many : GoodIn wsL_law wsX6_many := goodIn_r _ [720, 17, 106, 144, 37, 21, 154, 25, 155, 366, 367, 368, 369, 370, 371, 372, 725, 726, 727, 728, 729, 730, 731, 732, 733, 734, 735, 765, 766, 767, 768, 769, 770, 771, 772, 773, 774, 775, 776] (by decide +kernel) (by decide +kernel)
set_option maxRecDepth 20000 in
theorem gL_law_X6_many : GoodIn wsL_law (wsV RL 145 RX6 yX6_many wsX6_many) := goodIn_app (goodIn_of _ (by decide +kernel)) ggL_law_X6_many
set_option maxRecDepth 20000 in
theorem ggL_law_X7_many : GoodIn wsL_law wsX7_many := goodIn_r _ [724, 166, 210, 212, 213, 214, 377, 378, 5, 379, 736, 737, 738, 739, 740, 741, 742, 743, 744, 745, 746, 747, 748, 749, 750, 751, 752, 753, 754, 755, 756, 757, 758, 759, 760, 761, 762, 763, 764] (by decide +kernel) (by decide +kernel)
set_option maxRecDepth 20000 in
theorem gL_law_X7_many : GoodIn wsL_law (wsV RL 148 RX7 yX7_many wsX7_many) := goodIn_app (goodIn_of _ (by decide +kernel)) ggL_law_X7_many
theorem dL_law_0 : decode cL_law 0 = .ok (.new 7, 3) := by decide +kernel
theorem dL_law_3 : decode cL_law 3 = .ok (.dup, 1) := by decide +kernel
theorem dL_law_4 : decode cL_law 4 = .ok (.invokespecial 9, 3) := by decide +kernel
theorem dL_law_7 : decode cL_law 7 = .ok (.astore_n 1, 1) := by decide +kernel
theorem dL_law_8 : decode cL_law 8 = .ok (.new 10, 3) := by decide +kernel
theorem dL_law_11 : decode cL_law 11 = .ok (.dup, 1) := by decide +kernel
theorem dL_law_12 : decode cL_law 12 = .ok (.invokespecial 12, 3) := by decide +kernel
theorem dL_law_15 : decode cL_law 15 = .ok (.astore_n 2, 1) := by decide +kernel
theorem dL_law_16 : decode cL_law 16 = .ok (.iconst 0, 1) := by decide +kernel
theorem dL_law_17 : decode cL_law 17 = .ok (.istore_n 3, 1) := by decide +kernel
end
section
theorem dL_law_18 : decode cL_law 18 = .ok (.iload_n 3, 1) := by decide +kernel
theorem dL_law_19 : decode cL_law 19 = .ok (.aload_n 0, 1) := by decide +kernel
theorem dL_law_20 : decode cL_law 20 = .ok (.arraylength, 1) := by decide +kernel
theorem dL_law_21 : decode cL_law 21 = .ok (.bipush 6, 2) := by decide +kernel
theorem dL_law_23 : decode cL_law 23 = .ok (.isub, 1) := by decide +kernel
theorem dL_law_24 : decode cL_law 24 = .ok (.if_icmp .gt 1246, 3) := by decide +kernel
theorem dL_law_27 : decode cL_law 27 = .ok (.aload_n 0, 1) := by decide +kernel
theorem dL_law_28 : decode cL_law 28 = .ok (.iload_n 3, 1) := by decide +kernel
theorem dL_law_29 : decode cL_law 29 = .ok (.iaload, 1) := by decide +kernel
theorem dL_law_30 : decode cL_law 30 = .ok (.bipush 31, 2) := by decide +kernel
theorem dL_law_32 : decode cL_law 32 = .ok (.iand, 1) := by decide +kernel
theorem dL_law_33 : decode cL_law 33 = .ok (.tableswitch 1231 0 31 #[143, 196, 229, 252, 285, 318, 351, 384, 407, 430, 493, 556, 619, 632, 665, 688, 741, 784, 807, 830, 853, 887, 930, 953, 996, 1040, 1103, 1126, 1149, 1182, 1195, 1208], 143) := by decide +kernel
theorem dL_law_176 : decode cL_law 176 = .ok (.aload_n 1, 1) := by decide +kernel
theorem dL_law_177 : decode cL_law 177 = .ok (.aload_n 0, 1) := by decide +kernel
theorem dL_law_178 : decode cL_law 178 = .ok (.iload_n 3, 1) := by decide +kernel
theorem dL_law_179 : decode cL_law 179 = .ok (.iconst 1, 1) := by decide +kernel
theorem dL_law_180 : decode cL_law 180 = .ok (.iadd, 1) := by decide +kernel
theorem dL_law_181 : decode cL_law 181 = .ok (.iaload, 1) := by decide +kernel
theorem dL_law_182 : decode cL_law 182 = .ok (.aload_n 0, 1) := by decide +kernel
theorem dL_law_183 : decode cL_law 183 = .ok (.iload_n 3, 1) := by decide +kernel
theorem dL_law_184 : decode cL_law 184 = .ok (.iconst 2, 1) := by decide +kernel
theorem dL_law_185 : decode cL_law 185 = .ok (.iadd, 1) := by decide +kernel
theorem dL_law_186 : decode cL_law 186 = .ok (.iaload, 1) := by decide +kernel
theorem dL_law_187 : decode cL_law 187 = .ok (.aload_n 0, 1) := by decide +kernel
theorem dL_law_188 : decode cL_law 188 = .ok (.iload_n 3, 1) := by decide +kernel
theorem dL_law_189 : decode cL_law 189 = .ok (.iconst 3, 1) := by decide +kernel
theorem dL_law_190 : decode cL_law 190 = .ok (.iadd, 1) := by decide +kernel
theorem dL_law_191 : decode cL_law 191 = .ok (.iaload, 1) := by decide +kernel
theorem dL_law_192 : decode cL_law 192 = .ok (.aload_n 0, 1) := by decide +kernel
theorem dL_law_193 : decode cL_law 193 = .ok (.iload_n 3, 1) := by decide +kernel
theorem dL_law_194 : decode cL_law 194 = .ok (.iconst 4, 1) := by decide +kernel
theorem dL_law_195 : decode cL_law 195 = .ok (.iadd, 1) := by decide +kernel
theorem dL_law_196 : decode cL_law 196 = .ok (.iaload, 1) := by decide +kernel
theorem dL_law_197 : decode cL_law 197 = .ok (.invokevirtual 13, 3) := by decide +kernel
theorem dL_law_200 : decode cL_law 200 = .ok (.aload_n 2, 1) := by decide +kernel
theorem dL_law_201 : decode cL_law 201 = .ok (.aload_n 0, 1) := by decide +kernel
theorem dL_law_202 : decode cL_law 202 = .ok (.iload_n 3, 1) := by decide +kernel
theorem dL_law_203 : decode cL_law 203 = .ok (.iconst 1, 1) := by decide +kernel
theorem dL_law_204 : decode cL_law 204 = .ok (.iadd, 1) := by decide +kernel
theorem dL_law_205 : decode cL_law 205 = .ok (.iaload, 1) := by decide +kernel
theorem dL_law_206 : decode cL_law 206 = .ok (.aload_n 0, 1) := by decide +kernel
theorem dL_law_207 : decode cL_law 207 = .ok (.iload_n 3, 1) := by decide +kernel
theorem dL_law_208 : decode cL_law 208 = .ok (.iconst 2, 1) := by decide +kernel
theorem dL_law_209 : decode cL_law 209 = .ok (.iadd, 1) := by decide +kernel
theorem dL_law_210 : decode cL_law 210 = .ok (.iaload, 1) := by decide +kernel
theorem dL_law_211 : decode cL_law 211 = .ok (.aload_n 0, 1) := by decide +kernel
theorem dL_law_212 : decode cL_law 212 = .ok (.iload_n 3, 1) := by decide +kernel
theorem dL_law_213 : decode cL_law 213 = .ok (.iconst 3, 1) := by decide +kernel
theorem dL_law_214 : decode cL_law 214 = .ok (.iadd, 1) := by decide +kernel
theorem dL_law_215 : decode cL_law 215 = .ok (.iaload, 1) := by decide +kernel
theorem dL_law_216 : decode cL_law 216 = .ok (.aload_n 0, 1) := by decide +kernel
theorem dL_law_217 : decode cL_law 217 = .ok (.iload_n 3, 1) := by decide +kernel
theorem dL_law_218 : decode cL_law 218 = .ok (.iconst 4, 1) := by decide +kernel
theorem dL_law_219 : decode cL_law 219 = .ok (.iadd, 1) := by decide +kernel
theorem dL_law_220 : decode cL_law 220 = .ok (.iaload, 1) := by decide +kernel
theorem dL_law_221 : decode cL_law 221 = .ok (.invokevirtual 17, 3) := by decide +kernel
theorem dL_law_224 : decode cL_law 224 = .ok (.if_icmp .eq 1040, 3) := by decide +kernel
theorem dL_law_227 : decode cL_law 227 = .ok (.iconst 0, 1) := by decide +kernel
theorem dL_law_228 : decode cL_law 228 = .ok (.ireturn, 1) := by decide +kernel
theorem dL_law_229 : decode cL_law 229 = .ok (.aload_n 1, 1) := by decide +kernel
theorem dL_law_230 : decode cL_law 230 = .ok (.aload_n 0, 1) := by decide +kernel
theorem dL_law_231 : decode cL_law 231 = .ok (.iload_n 3, 1) := by decide +kernel
theorem dL_law_232 : decode cL_law 232 = .ok (.iconst 1, 1) := by decide +kernel
theorem dL_law_233 : decode cL_law 233 = .ok (.iadd, 1) := by decide +kernel
theorem dL_law_234 : decode cL_law 234 = .ok (.iaload, 1) := by decide +kernel
theorem dL_law_235 : decode cL_law 235 = .ok (.aload_n 0, 1) := by decide +kernel
theorem dL_law_236 : decode cL_law 236 = .ok (.iload_n 3, 1) := by decide +kernel
theorem dL_law_237 : decode cL_law 237 = .ok (.iconst 2, 1) := by decide +kernel
theorem dL_law_238 : decode cL_law 238 = .ok (.iadd, 1) := by decide +kernel
theorem dL_law_239 : decode cL_law 239 = .ok (.iaload, 1) := by decide +kernel
theorem dL_law_240 : decode cL_law 240 = .ok (.invokevirtual 18, 3) := by decide +kernel
theorem dL_law_243 : decode cL_law 243 = .ok (.aload_n 2, 1) := by decide +kernel
theorem dL_law_244 : decode cL_law 244 = .ok (.aload_n 0, 1) := by decide +kernel
theorem dL_law_245 : decode cL_law 245 = .ok (.iload_n 3, 1) := by decide +kernel
theorem dL_law_246 : decode cL_law 246 = .ok (.iconst 1, 1) := by decide +kernel
theorem dL_law_247 : decode cL_law 247 = .ok (.iadd, 1) := by decide +kernel
theorem dL_law_248 : decode cL_law 248 = .ok (.iaload, 1) := by decide +kernel
theorem dL_law_249 : decode cL_law 249 = .ok (.aload_n 0, 1) := by decide +kernel
theorem dL_law_250 : decode cL_law 250 = .ok (.iload_n 3, 1) := by decide +kernel
theorem dL_law_251 : decode cL_law 251 = .ok (.iconst 2, 1) := by decide +kernel
theorem dL_law_252 : decode cL_law 252 = .ok (.iadd, 1) := by decide +kernel
theorem dL_law_253 : decode cL_law 253 = .ok (.iaload, 1) := by decide +kernel
theorem dL_law_254 : decode cL_law 254 = .ok (.invokevirtual 22, 3) := by decide +kernel
theorem dL_law_257 : decode cL_law 257 = .ok (.if_icmp .eq 1007, 3) := by decide +kernel
theorem dL_law_260 : decode cL_law 260 = .ok (.iconst 0, 1) := by decide +kernel
theorem dL_law_261 : decode cL_law 261 = .ok (.ireturn, 1) := by decide +kernel
theorem dL_law_262 : decode cL_law 262 = .ok (.aload_n 1, 1) := by decide +kernel
theorem dL_law_263 : decode cL_law 263 = .ok (.aload_n 0, 1) := by decide +kernel
theorem dL_law_264 : decode cL_law 264 = .ok (.iload_n 3, 1) := by decide +kernel
theorem dL_law_265 : decode cL_law 265 = .ok (.iconst 1, 1) := by decide +kernel
theorem dL_law_266 : decode cL_law 266 = .ok (.iadd, 1) := by decide +kernel
theorem dL_law_267 : decode cL_law 267 = .ok (.iaload, 1) := by decide +kernel
theorem dL_law_268 : decode cL_law 268 = .ok (.invokevirtual 23, 3) := by decide +kernel
theorem dL_law_271 : decode cL_law 271 = .ok (.aload_n 2, 1) := by decide +kernel
theorem dL_law_272 : decode cL_law 272 = .ok (.aload_n 0, 1) := by decide +kernel
theorem dL_law_273 : decode cL_law 273 = .ok (.iload_n 3, 1) := by decide +kernel
theorem dL_law_274 : decode cL_law 274 = .ok (.iconst 1, 1) := by decide +kernel
theorem dL_law_275 : decode cL_law 275 = .ok (.iadd, 1) := by decide +kernel
theorem dL_law_276 : decode cL_law 276 = .ok (.iaload, 1) := by decide +kernel
theorem dL_law_277 : decode cL_law 277 = .ok (.invokevirtual 27, 3) := by decide +kernel
theorem dL_law_280 : decode cL_law 280 = .ok (.if_icmp .eq 984, 3) := by decide +kernel
theorem dL_law_283 : decode cL_law 283 = .ok (.iconst 0, 1) := by decide +kernel
theorem dL_law_284 : decode cL_law 284 = .ok (.ireturn, 1) := by decide +kernel
theorem dL_law_285 : decode cL_law 285 = .ok (.aload_n 1, 1) := by decide +kernel
theorem dL_law_286 : decode cL_law 286 = .ok (.aload_n 0, 1) := by decide +kernel
theorem dL_law_287 : decode cL_law 287 = .ok (.iload_n 3, 1) := by decide +kernel
theorem dL_law_288 : decode cL_law 288 = .ok (.iconst 1, 1) := by decide +kernel
theorem dL_law_289 : decode cL_law 289 = .ok (.iadd, 1) := by decide +kernel
theorem dL_law_290 : decode cL_law 290 = .ok (.iaload, 1) := by decide +kernel
theorem dL_law_291 : decode cL_law 291 = .ok (.aload_n 0, 1) := by decide +kernel
theorem dL_law_292 : decode cL_law 292 = .ok (.iload_n 3, 1) := by decide +kernel
theorem dL_law_293 : decode cL_law 293 = .ok (.iconst 2, 1) := by decide +kernel
theorem dL_law_294 : decode cL_law 294 = .ok (.iadd, 1) := by decide +kernel
theorem dL_law_295 : decode cL_law 295 = .ok (.iaload, 1) := by decide +kernel
theorem dL_law_296 : decode cL_law 296 = .ok (.invokevirtual 28, 3) := by decide +kernel
theorem dL_law_299 : decode cL_law 299 = .ok (.aload_n 2, 1) := by decide +kernel
theorem dL_law_300 : decode cL_law 300 = .ok (.aload_n 0, 1) := by decide +kernel
theorem dL_law_301 : decode cL_law 301 = .ok (.iload_n 3, 1) := by decide +kernel
theorem dL_law_302 : decode cL_law 302 = .ok (.iconst 1, 1) := by decide +kernel
theorem dL_law_303 : decode cL_law 303 = .ok (.iadd, 1) := by decide +kernel
theorem dL_law_304 : decode cL_law 304 = .ok (.iaload, 1) := by decide +kernel
theorem dL_law_305 : decode cL_law 305 = .ok (.aload_n 0, 1) := by decide +kernel
theorem dL_law_306 : decode cL_law 306 = .ok (.iload_n 3, 1) := by decide +kernel
theorem dL_law_307 : decode cL_law 307 = .ok (.iconst 2, 1) := by decide +kernel
theorem dL_law_308 : decode cL_law 308 = .ok (.iadd, 1) := by decide +kernel
theorem dL_law_309 : decode cL_law 309 = .ok (.iaload, 1) := by decide +kernel
theorem dL_law_310 : decode cL_law 310 = .ok (.invokevirtual 31, 3) := by decide +kernel
theorem dL_law_313 : decode cL_law 313 = .ok (.if_icmp .eq 951, 3) := by decide +kernel
theorem dL_law_316 : decode cL_law 316 = .ok (.iconst 0, 1) := by decide +kernel
theorem dL_law_317 : decode cL_law 317 = .ok (.ireturn, 1) := by decide +kernel
theorem dL_law_318 : decode cL_law 318 = .ok (.aload_n 1, 1) := by decide +kernel
theorem dL_law_319 : decode cL_law 319 = .ok (.aload_n 0, 1) := by decide +kernel
theorem dL_law_320 : decode cL_law 320 = .ok (.iload_n 3, 1) := by decide +kernel
theorem dL_law_321 : decode cL_law 321 = .ok (.iconst 1, 1) := by decide +kernel
theorem dL_law_322 : decode cL_law 322 = .ok (.iadd, 1) := by decide +kernel
theorem dL_law_323 : decode cL_law 323 = .ok (.iaload, 1) := by decide +kernel
theorem dL_law_324 : decode cL_law 324 = .ok (.aload_n 0, 1) := by decide +kernel
theorem dL_law_325 : decode cL_law 325 = .ok (.iload_n 3, 1) := by decide +kernel
theorem dL_law_326 : decode cL_law 326 = .ok (.iconst 2, 1) := by decide +kernel
theorem dL_law_327 : decode cL_law 327 = .ok (.iadd, 1) := by decide +kernel
theorem dL_law_328 : decode cL_law 328 = .ok (.iaload, 1) := by decide +kernel
theorem dL_law_329 : decode cL_law 329 = .ok (.invokevirtual 32, 3) := by decide +kernel
theorem dL_law_332 : decode cL_law 332 = .ok (.aload_n 2, 1) := by decide +kernel
theorem dL_law_333 : decode cL_law 333 = .ok (.aload_n 0, 1) := by decide +kernel
theorem dL_law_334 : decode cL_law 334 = .ok (.iload_n 3, 1) := by decide +kernel
theorem dL_law_335 : decode cL_law 335 = .ok (.iconst 1, 1) := by decide +kernel
theorem dL_law_336 : decode cL_law 336 = .ok (.iadd, 1) := by decide +kernel
theorem dL_law_337 : decode cL_law 337 = .ok (.iaload, 1) := by decide +kernel
theorem dL_law_338 : decode cL_law 338 = .ok (.aload_n 0, 1) := by decide +kernel
theorem dL_law_339 : decode cL_law 339 = .ok (.iload_n 3, 1) := by decide +kernel
theorem dL_law_340 : decode cL_law 340 = .ok (.iconst 2, 1) := by decide +kernel
theorem dL_law_341 : decode cL_law 341 = .ok (.iadd, 1) := by decide +kernel
theorem dL_law_342 : decode cL_law 342 = .ok (.iaload, 1) := by decide +kernel
theorem dL_law_343 : decode cL_law 343 = .ok (.invokevirtual 35, 3) := by decide +kernel
theorem dL_law_346 : decode cL_law 346 = .ok (.if_icmp .eq 918, 3) := by decide +kernel
theorem dL_law_349 : decode cL_law 349 = .ok (.iconst 0, 1) := by decide +kernel
theorem dL_law_350 : decode cL_law 350 = .ok (.ireturn, 1) := by decide +kernel
theorem dL_law_351 : decode cL_law 351 = .ok (.aload_n 1, 1) := by decide +kernel
theorem dL_law_352 : decode cL_law 352 = .ok (.aload_n 0, 1) := by decide +kernel
theorem dL_law_353 : decode cL_law 353 = .ok (.iload_n 3, 1) := by decide +kernel
theorem dL_law_354 : decode cL_law 354 = .ok (.iconst 1, 1) := by decide +kernel
theorem dL_law_355 : decode cL_law 355 = .ok (.iadd, 1) := by decide +kernel
theorem dL_law_356 : decode cL_law 356 = .ok (.iaload, 1) := by decide +kernel
theorem dL_law_357 : decode cL_law 357 = .ok (.aload_n 0, 1) := by decide +kernel
theorem dL_law_358 : decode cL_law 358 = .ok (.iload_n 3, 1) := by decide +kernel
theorem dL_law_359 : decode cL_law 359 = .ok (.iconst 2, 1) := by decide +kernel
theorem dL_law_360 : decode cL_law 360 = .ok (.iadd, 1) := by decide +kernel
theorem dL_law_361 : decode cL_law 361 = .ok (.iaload, 1) := by decide +kernel
theorem dL_law_362 : decode cL_law 362 = .ok (.invokevirtual 36, 3) := by decide +kernel
theorem dL_law_365 : decode cL_law 365 = .ok (.aload_n 2, 1) := by decide +kernel
theorem dL_law_366 : decode cL_law 366 = .ok (.aload_n 0, 1) := by decide +kernel
theorem dL_law_367 : decode cL_law 367 = .ok (.iload_n 3, 1) := by decide +kernel
theorem dL_law_368 : decode cL_law 368 = .ok (.iconst 1, 1) := by decide +kernel
theorem dL_law_369 : decode cL_law 369 = .ok (.iadd, 1) := by decide +kernel
theorem dL_law_370 : decode cL_law 370 = .ok (.iaload, 1) := by decide +kernel
theorem dL_law_371 : decode cL_law 371 = .ok (.aload_n 0, 1) := by decide +kernel
theorem dL_law_372 : decode cL_law 372 = .ok (.iload_n 3, 1) := by decide +kernel
theorem dL_law_373 : decode cL_law 373 = .ok (.iconst 2, 1) := by decide +kernel
theorem dL_law_374 : decode cL_law 374 = .ok (.iadd, 1) := by decide +kernel
theorem dL_law_375 : decode cL_law 375 = .ok (.iaload, 1) := by decide +kernel
theorem dL_law_376 : decode cL_law 376 = .ok (.invokevirtual 39, 3) := by decide +kernel
theorem dL_law_379 : decode cL_law 379 = .ok (.if_icmp .eq 885, 3) := by decide +kernel
theorem dL_law_382 : decode cL_law 382 = .ok (.iconst 0, 1) := by decide +kernel
theorem dL_law_383 : decode cL_law 383 = .ok (.ireturn, 1) := by decide +kernel
theorem dL_law_384 : decode cL_law 384 = .ok (.aload_n 1, 1) := by decide +kernel
theorem dL_law_385 : decode cL_law 385 = .ok (.aload_n 0, 1) := by decide +kernel
theorem dL_law_386 : decode cL_law 386 = .ok (.iload_n 3, 1) := by decide +kernel
theorem dL_law_387 : decode cL_law 387 = .ok (.iconst 1, 1) := by decide +kernel
theorem dL_law_388 : decode cL_law 388 = .ok (.iadd, 1) := by decide +kernel
theorem dL_law_389 : decode cL_law 389 = .ok (.iaload, 1) := by decide +kernel
theorem dL_law_390 : decode cL_law 390 = .ok (.aload_n 0, 1) := by decide +kernel
theorem dL_law_391 : decode cL_law 391 = .ok (.iload_n 3, 1) := by decide +kernel
theorem dL_law_392 : decode cL_law 392 = .ok (.iconst 2, 1) := by decide +kernel
theorem dL_law_393 : decode cL_law 393 = .ok (.iadd, 1) := by decide +kernel
theorem dL_law_394 : decode cL_law 394 = .ok (.iaload, 1) := by decide +kernel
theorem dL_law_395 : decode cL_law 395 = .ok (.invokevirtual 40, 3) := by decide +kernel
theorem dL_law_398 : decode cL_law 398 = .ok (.aload_n 2, 1) := by decide +kernel
theorem dL_law_399 : decode cL_law 399 = .ok (.aload_n 0, 1) := by decide +kernel
theorem dL_law_400 : decode cL_law 400 = .ok (.iload_n 3, 1) := by decide +kernel
theorem dL_law_401 : decode cL_law 401 = .ok (.iconst 1, 1) := by decide +kernel
theorem dL_law_402 : decode cL_law 402 = .ok (.iadd, 1) := by decide +kernel
theorem dL_law_403 : decode cL_law 403 = .ok (.iaload, 1) := by decide +kernel
theorem dL_law_404 : decode cL_law 404 = .ok (.aload_n 0, 1) := by decide +kernel
theorem dL_law_405 : decode cL_law 405 = .ok (.iload_n 3, 1) := by decide +kernel
theorem dL_law_406 : decode cL_law 406 = .ok (.iconst 2, 1) := by decide +kernel
theorem dL_law_407 : decode cL_law 407 = .ok (.iadd, 1) := by decide +kernel
theorem dL_law_408 : decode cL_law 408 = .ok (.iaload, 1) := by decide +kernel
theorem dL_law_409 : decode cL_law 409 = .ok (.invokevirtual 43, 3) := by decide +kernel
theorem dL_law_412 : decode cL_law 412 = .ok (.if_icmp .eq 852, 3) := by decide +kernel
theorem dL_law_415 : decode cL_law 415 = .ok (.iconst 0, 1) := by decide +kernel
theorem dL_law_416 : decode cL_law 416 = .ok (.ireturn, 1) := by decide +kernel
theorem dL_law_417 : decode cL_law 417 = .ok (.aload_n 1, 1) := by decide +kernel
theorem dL_law_418 : decode cL_law 418 = .ok (.aload_n 0, 1) := by decide +kernel
theorem dL_law_419 : decode cL_law 419 = .ok (.iload_n 3, 1) := by decide +kernel
theorem dL_law_420 : decode cL_law 420 = .ok (.iconst 1, 1) := by decide +kernel
theorem dL_law_421 : decode cL_law 421 = .ok (.iadd, 1) := by decide +kernel
theorem dL_law_422 : decode cL_law 422 = .ok (.iaload, 1) := by decide +kernel
theorem dL_law_423 : decode cL_law 423 = .ok (.invokevirtual 44, 3) := by decide +kernel
theorem dL_law_426 : decode cL_law 426 = .ok (.aload_n 2, 1) := by decide +kernel
theorem dL_law_427 : decode cL_law 427 = .ok (.aload_n 0, 1) := by decide +kernel
theorem dL_law_428 : decode cL_law 428 = .ok (.iload_n 3, 1) := by decide +kernel
theorem dL_law_429 : decode cL_law 429 = .ok (.iconst 1, 1) := by decide +kernel
theorem dL_law_430 : decode cL_law 430 = .ok (.iadd, 1) := by decide +kernel
theorem dL_law_431 : decode cL_law 431 = .ok (.iaload, 1) := by decide +kernel
theorem dL_law_432 : decode cL_law 432 = .ok (.invokevirtual 47, 3) := by decide +kernel
theorem dL_law_435 : decode cL_law 435 = .ok (.if_icmp .eq 829, 3) := by decide +kernel
theorem dL_law_438 : decode cL_law 438 = .ok (.iconst 0, 1) := by decide +kernel
theorem dL_law_439 : decode cL_law 439 = .ok (.ireturn, 1) := by decide +kernel
theorem dL_law_440 : decode cL_law 440 = .ok (.aload_n 1, 1) := by decide +kernel
theorem dL_law_441 : decode cL_law 441 = .ok (.aload_n 0, 1) := by decide +kernel
theorem dL_law_442 : decode cL_law 442 = .ok (.iload_n 3, 1) := by decide +kernel
theorem dL_law_443 : decode cL_law 443 = .ok (.iconst 1, 1) := by decide +kernel
theorem dL_law_444 : decode cL_law 444 = .ok (.iadd, 1) := by decide +kernel
theorem dL_law_445 : decode cL_law 445 = .ok (.iaload, 1) := by decide +kernel
theorem dL_law_446 : decode cL_law 446 = .ok (.invokevirtual 48, 3) := by decide +kernel
theorem dL_law_449 : decode cL_law 449 = .ok (.aload_n 2, 1) := by decide +kernel
theorem dL_law_450 : decode cL_law 450 = .ok (.aload_n 0, 1) := by decide +kernel
theorem dL_law_451 : decode cL_law 451 = .ok (.iload_n 3, 1) := by decide +kernel
theorem dL_law_452 : decode cL_law 452 = .ok (.iconst 1, 1) := by decide +kernel
theorem dL_law_453 : decode cL_law 453 = .ok (.iadd, 1) := by decide +kernel
theorem dL_law_454 : decode cL_law 454 = .ok (.iaload, 1) := by decide +kernel
theorem dL_law_455 : decode cL_law 455 = .ok (.invokevirtual 51, 3) := by decide +kernel
theorem dL_law_458 : decode cL_law 458 = .ok (.if_icmp .eq 806, 3) := by decide +kernel
theorem dL_law_461 : decode cL_law 461 = .ok (.iconst 0, 1) := by decide +kernel
theorem dL_law_462 : decode cL_law 462 = .ok (.ireturn, 1) := by decide +kernel
theorem dL_law_463 : decode cL_law 463 = .ok (.aload_n 1, 1) := by decide +kernel
theorem dL_law_464 : decode cL_law 464 = .ok (.aload_n 0, 1) := by decide +kernel
theorem dL_law_465 : decode cL_law 465 = .ok (.iload_n 3, 1) := by decide +kernel
theorem dL_law_466 : decode cL_law 466 = .ok (.iconst 1, 1) := by decide +kernel
theorem dL_law_467 : decode cL_law 467 = .ok (.iadd, 1) := by decide +kernel
end
section
theorem dL_law_468 : decode cL_law 468 = .ok (.iaload, 1) := by decide +kernel
theorem dL_law_469 : decode cL_law 469 = .ok (.aload_n 0, 1) := by decide +kernel
theorem dL_law_470 : decode cL_law 470 = .ok (.iload_n 3, 1) := by decide +kernel
theorem dL_law_471 : decode cL_law 471 = .ok (.iconst 2, 1) := by decide +kernel
theorem dL_law_472 : decode cL_law 472 = .ok (.iadd, 1) := by decide +kernel
theorem dL_law_473 : decode cL_law 473 = .ok (.iaload, 1) := by decide +kernel
theorem dL_law_474 : decode cL_law 474 = .ok (.aload_n 0, 1) := by decide +kernel
theorem dL_law_475 : decode cL_law 475 = .ok (.iload_n 3, 1) := by decide +kernel
theorem dL_law_476 : decode cL_law 476 = .ok (.iconst 3, 1) := by decide +kernel
theorem dL_law_477 : decode cL_law 477 = .ok (.iadd, 1) := by decide +kernel
theorem dL_law_478 : decode cL_law 478 = .ok (.iaload, 1) := by decide +kernel
theorem dL_law_479 : decode cL_law 479 = .ok (.aload_n 0, 1) := by decide +kernel
theorem dL_law_480 : decode cL_law 480 = .ok (.iload_n 3, 1) := by decide +kernel
theorem dL_law_481 : decode cL_law 481 = .ok (.iconst 4, 1) := by decide +kernel
theorem dL_law_482 : decode cL_law 482 = .ok (.iadd, 1) := by decide +kernel
theorem dL_law_483 : decode cL_law 483 = .ok (.iaload, 1) := by decide +kernel
theorem dL_law_484 : decode cL_law 484 = .ok (.aload_n 0, 1) := by decide +kernel
theorem dL_law_485 : decode cL_law 485 = .ok (.iload_n 3, 1) := by decide +kernel
theorem dL_law_486 : decode cL_law 486 = .ok (.iconst 5, 1) := by decide +kernel
theorem dL_law_487 : decode cL_law 487 = .ok (.iadd, 1) := by decide +kernel
theorem dL_law_488 : decode cL_law 488 = .ok (.iaload, 1) := by decide +kernel
theorem dL_law_489 : decode cL_law 489 = .ok (.invokevirtual 52, 3) := by decide +kernel
theorem dL_law_492 : decode cL_law 492 = .ok (.aload_n 2, 1) := by decide +kernel
theorem dL_law_493 : decode cL_law 493 = .ok (.aload_n 0, 1) := by decide +kernel
theorem dL_law_494 : decode cL_law 494 = .ok (.iload_n 3, 1) := by decide +kernel
theorem dL_law_495 : decode cL_law 495 = .ok (.iconst 1, 1) := by decide +kernel
theorem dL_law_496 : decode cL_law 496 = .ok (.iadd, 1) := by decide +kernel
theorem dL_law_497 : decode cL_law 497 = .ok (.iaload, 1) := by decide +kernel
theorem dL_law_498 : decode cL_law 498 = .ok (.aload_n 0, 1) := by decide +kernel
theorem dL_law_499 : decode cL_law 499 = .ok (.iload_n 3, 1) := by decide +kernel
theorem dL_law_500 : decode cL_law 500 = .ok (.iconst 2, 1) := by decide +kernel
theorem dL_law_501 : decode cL_law 501 = .ok (.iadd, 1) := by decide +kernel
theorem dL_law_502 : decode cL_law 502 = .ok (.iaload, 1) := by decide +kernel
theorem dL_law_503 : decode cL_law 503 = .ok (.aload_n 0, 1) := by decide +kernel
theorem dL_law_504 : decode cL_law 504 = .ok (.iload_n 3, 1) := by decide +kernel
theorem dL_law_505 : decode cL_law 505 = .ok (.iconst 3, 1) := by decide +kernel
theorem dL_law_506 : decode cL_law 506 = .ok (.iadd, 1) := by decide +kernel
theorem dL_law_507 : decode cL_law 507 = .ok (.iaload, 1) := by decide +kernel
theorem dL_law_508 : decode cL_law 508 = .ok (.aload_n 0, 1) := by decide +kernel
theorem dL_law_509 : decode cL_law 509 = .ok (.iload_n 3, 1) := by decide +kernel
theorem dL_law_510 : decode cL_law 510 = .ok (.iconst 4, 1) := by decide +kernel
theorem dL_law_511 : decode cL_law 511 = .ok (.iadd, 1) := by decide +kernel
theorem dL_law_512 : decode cL_law 512 = .ok (.iaload, 1) := by decide +kernel
theorem dL_law_513 : decode cL_law 513 = .ok (.aload_n 0, 1) := by decide +kernel
theorem dL_law_514 : decode cL_law 514 = .ok (.iload_n 3, 1) := by decide +kernel
theorem dL_law_515 : decode cL_law 515 = .ok (.iconst 5, 1) := by decide +kernel
theorem dL_law_516 : decode cL_law 516 = .ok (.iadd, 1) := by decide +kernel
theorem dL_law_517 : decode cL_law 517 = .ok (.iaload, 1) := by decide +kernel
theorem dL_law_518 : decode cL_law 518 = .ok (.invokevirtual 56, 3) := by decide +kernel
theorem dL_law_521 : decode cL_law 521 = .ok (.if_icmp .eq 743, 3) := by decide +kernel
theorem dL_law_524 : decode cL_law 524 = .ok (.iconst 0, 1) := by decide +kernel
theorem dL_law_525 : decode cL_law 525 = .ok (.ireturn, 1) := by decide +kernel
theorem dL_law_526 : decode cL_law 526 = .ok (.aload_n 1, 1) := by decide +kernel
theorem dL_law_527 : decode cL_law 527 = .ok (.aload_n 0, 1) := by decide +kernel
theorem dL_law_528 : decode cL_law 528 = .ok (.iload_n 3, 1) := by decide +kernel
theorem dL_law_529 : decode cL_law 529 = .ok (.iconst 1, 1) := by decide +kernel
theorem dL_law_530 : decode cL_law 530 = .ok (.iadd, 1) := by decide +kernel
theorem dL_law_531 : decode cL_law 531 = .ok (.iaload, 1) := by decide +kernel
theorem dL_law_532 : decode cL_law 532 = .ok (.aload_n 0, 1) := by decide +kernel
theorem dL_law_533 : decode cL_law 533 = .ok (.iload_n 3, 1) := by decide +kernel
theorem dL_law_534 : decode cL_law 534 = .ok (.iconst 2, 1) := by decide +kernel
theorem dL_law_535 : decode cL_law 535 = .ok (.iadd, 1) := by decide +kernel
theorem dL_law_536 : decode cL_law 536 = .ok (.iaload, 1) := by decide +kernel
theorem dL_law_537 : decode cL_law 537 = .ok (.aload_n 0, 1) := by decide +kernel
theorem dL_law_538 : decode cL_law 538 = .ok (.iload_n 3, 1) := by decide +kernel
theorem dL_law_539 : decode cL_law 539 = .ok (.iconst 3, 1) := by decide +kernel
theorem dL_law_540 : decode cL_law 540 = .ok (.iadd, 1) := by decide +kernel
theorem dL_law_541 : decode cL_law 541 = .ok (.iaload, 1) := by decide +kernel
theorem dL_law_542 : decode cL_law 542 = .ok (.aload_n 0, 1) := by decide +kernel
theorem dL_law_543 : decode cL_law 543 = .ok (.iload_n 3, 1) := by decide +kernel
theorem dL_law_544 : decode cL_law 544 = .ok (.iconst 4, 1) := by decide +kernel
theorem dL_law_545 : decode cL_law 545 = .ok (.iadd, 1) := by decide +kernel
theorem dL_law_546 : decode cL_law 546 = .ok (.iaload, 1) := by decide +kernel
theorem dL_law_547 : decode cL_law 547 = .ok (.aload_n 0, 1) := by decide +kernel
theorem dL_law_548 : decode cL_law 548 = .ok (.iload_n 3, 1) := by decide +kernel
theorem dL_law_549 : decode cL_law 549 = .ok (.iconst 5, 1) := by decide +kernel
theorem dL_law_550 : decode cL_law 550 = .ok (.iadd, 1) := by decide +kernel
theorem dL_law_551 : decode cL_law 551 = .ok (.iaload, 1) := by decide +kernel
theorem dL_law_552 : decode cL_law 552 = .ok (.invokevirtual 57, 3) := by decide +kernel
theorem dL_law_555 : decode cL_law 555 = .ok (.aload_n 2, 1) := by decide +kernel
theorem dL_law_556 : decode cL_law 556 = .ok (.aload_n 0, 1) := by decide +kernel
theorem dL_law_557 : decode cL_law 557 = .ok (.iload_n 3, 1) := by decide +kernel
theorem dL_law_558 : decode cL_law 558 = .ok (.iconst 1, 1) := by decide +kernel
theorem dL_law_559 : decode cL_law 559 = .ok (.iadd, 1) := by decide +kernel
theorem dL_law_560 : decode cL_law 560 = .ok (.iaload, 1) := by decide +kernel
theorem dL_law_561 : decode cL_law 561 = .ok (.aload_n 0, 1) := by decide +kernel
theorem dL_law_562 : decode cL_law 562 = .ok (.iload_n 3, 1) := by decide +kernel
theorem dL_law_563 : decode cL_law 563 = .ok (.iconst 2, 1) := by decide +kernel
theorem dL_law_564 : decode cL_law 564 = .ok (.iadd, 1) := by decide +kernel
theorem dL_law_565 : decode cL_law 565 = .ok (.iaload, 1) := by decide +kernel
theorem dL_law_566 : decode cL_law 566 = .ok (.aload_n 0, 1) := by decide +kernel
theorem dL_law_567 : decode cL_law 567 = .ok (.iload_n 3, 1) := by decide +kernel
theorem dL_law_568 : decode cL_law 568 = .ok (.iconst 3, 1) := by decide +kernel
theorem dL_law_569 : decode cL_law 569 = .ok (.iadd, 1) := by decide +kernel
theorem dL_law_570 : decode cL_law 570 = .ok (.iaload, 1) := by decide +kernel
theorem dL_law_571 : decode cL_law 571 = .ok (.aload_n 0, 1) := by decide +kernel
theorem dL_law_572 : decode cL_law 572 = .ok (.iload_n 3, 1) := by decide +kernel
theorem dL_law_573 : decode cL_law 573 = .ok (.iconst 4, 1) := by decide +kernel
theorem dL_law_574 : decode cL_law 574 = .ok (.iadd, 1) := by decide +kernel
theorem dL_law_575 : decode cL_law 575 = .ok (.iaload, 1) := by decide +kernel
theorem dL_law_576 : decode cL_law 576 = .ok (.aload_n 0, 1) := by decide +kernel
theorem dL_law_577 : decode cL_law 577 = .ok (.iload_n 3, 1) := by decide +kernel
theorem dL_law_578 : decode cL_law 578 = .ok (.iconst 5, 1) := by decide +kernel
theorem dL_law_579 : decode cL_law 579 = .ok (.iadd, 1) := by decide +kernel
theorem dL_law_580 : decode cL_law 580 = .ok (.iaload, 1) := by decide +kernel
theorem dL_law_581 : decode cL_law 581 = .ok (.invokevirtual 60, 3) := by decide +kernel
theorem dL_law_584 : decode cL_law 584 = .ok (.if_icmp .eq 680, 3) := by decide +kernel
theorem dL_law_587 : decode cL_law 587 = .ok (.iconst 0, 1) := by decide +kernel
theorem dL_law_588 : decode cL_law 588 = .ok (.ireturn, 1) := by decide +kernel
theorem dL_law_589 : decode cL_law 589 = .ok (.aload_n 1, 1) := by decide +kernel
theorem dL_law_590 : decode cL_law 590 = .ok (.aload_n 0, 1) := by decide +kernel
theorem dL_law_591 : decode cL_law 591 = .ok (.iload_n 3, 1) := by decide +kernel
theorem dL_law_592 : decode cL_law 592 = .ok (.iconst 1, 1) := by decide +kernel
theorem dL_law_593 : decode cL_law 593 = .ok (.iadd, 1) := by decide +kernel
theorem dL_law_594 : decode cL_law 594 = .ok (.iaload, 1) := by decide +kernel
theorem dL_law_595 : decode cL_law 595 = .ok (.aload_n 0, 1) := by decide +kernel
theorem dL_law_596 : decode cL_law 596 = .ok (.iload_n 3, 1) := by decide +kernel
theorem dL_law_597 : decode cL_law 597 = .ok (.iconst 2, 1) := by decide +kernel
theorem dL_law_598 : decode cL_law 598 = .ok (.iadd, 1) := by decide +kernel
theorem dL_law_599 : decode cL_law 599 = .ok (.iaload, 1) := by decide +kernel
theorem dL_law_600 : decode cL_law 600 = .ok (.aload_n 0, 1) := by decide +kernel
theorem dL_law_601 : decode cL_law 601 = .ok (.iload_n 3, 1) := by decide +kernel
theorem dL_law_602 : decode cL_law 602 = .ok (.iconst 3, 1) := by decide +kernel
theorem dL_law_603 : decode cL_law 603 = .ok (.iadd, 1) := by decide +kernel
theorem dL_law_604 : decode cL_law 604 = .ok (.iaload, 1) := by decide +kernel
theorem dL_law_605 : decode cL_law 605 = .ok (.aload_n 0, 1) := by decide +kernel
theorem dL_law_606 : decode cL_law 606 = .ok (.iload_n 3, 1) := by decide +kernel
theorem dL_law_607 : decode cL_law 607 = .ok (.iconst 4, 1) := by decide +kernel
theorem dL_law_608 : decode cL_law 608 = .ok (.iadd, 1) := by decide +kernel
theorem dL_law_609 : decode cL_law 609 = .ok (.iaload, 1) := by decide +kernel
theorem dL_law_610 : decode cL_law 610 = .ok (.aload_n 0, 1) := by decide +kernel
theorem dL_law_611 : decode cL_law 611 = .ok (.iload_n 3, 1) := by decide +kernel
theorem dL_law_612 : decode cL_law 612 = .ok (.iconst 5, 1) := by decide +kernel
theorem dL_law_613 : decode cL_law 613 = .ok (.iadd, 1) := by decide +kernel
theorem dL_law_614 : decode cL_law 614 = .ok (.iaload, 1) := by decide +kernel
theorem dL_law_615 : decode cL_law 615 = .ok (.invokevirtual 61, 3) := by decide +kernel
theorem dL_law_618 : decode cL_law 618 = .ok (.aload_n 2, 1) := by decide +kernel
theorem dL_law_619 : decode cL_law 619 = .ok (.aload_n 0, 1) := by decide +kernel
theorem dL_law_620 : decode cL_law 620 = .ok (.iload_n 3, 1) := by decide +kernel
theorem dL_law_621 : decode cL_law 621 = .ok (.iconst 1, 1) := by decide +kernel
theorem dL_law_622 : decode cL_law 622 = .ok (.iadd, 1) := by decide +kernel
theorem dL_law_623 : decode cL_law 623 = .ok (.iaload, 1) := by decide +kernel
theorem dL_law_624 : decode cL_law 624 = .ok (.aload_n 0, 1) := by decide +kernel
theorem dL_law_625 : decode cL_law 625 = .ok (.iload_n 3, 1) := by decide +kernel
theorem dL_law_626 : decode cL_law 626 = .ok (.iconst 2, 1) := by decide +kernel
theorem dL_law_627 : decode cL_law 627 = .ok (.iadd, 1) := by decide +kernel
theorem dL_law_628 : decode cL_law 628 = .ok (.iaload, 1) := by decide +kernel
theorem dL_law_629 : decode cL_law 629 = .ok (.aload_n 0, 1) := by decide +kernel
theorem dL_law_630 : decode cL_law 630 = .ok (.iload_n 3, 1) := by decide +kernel
theorem dL_law_631 : decode cL_law 631 = .ok (.iconst 3, 1) := by decide +kernel
theorem dL_law_632 : decode cL_law 632 = .ok (.iadd, 1) := by decide +kernel
theorem dL_law_633 : decode cL_law 633 = .ok (.iaload, 1) := by decide +kernel
theorem dL_law_634 : decode cL_law 634 = .ok (.aload_n 0, 1) := by decide +kernel
theorem dL_law_635 : decode cL_law 635 = .ok (.iload_n 3, 1) := by decide +kernel
theorem dL_law_636 : decode cL_law 636 = .ok (.iconst 4, 1) := by decide +kernel
theorem dL_law_637 : decode cL_law 637 = .ok (.iadd, 1) := by decide +kernel
theorem dL_law_638 : decode cL_law 638 = .ok (.iaload, 1) := by decide +kernel
theorem dL_law_639 : decode cL_law 639 = .ok (.aload_n 0, 1) := by decide +kernel
theorem dL_law_640 : decode cL_law 640 = .ok (.iload_n 3, 1) := by decide +kernel
theorem dL_law_641 : decode cL_law 641 = .ok (.iconst 5, 1) := by decide +kernel
theorem dL_law_642 : decode cL_law 642 = .ok (.iadd, 1) := by decide +kernel
theorem dL_law_643 : decode cL_law 643 = .ok (.iaload, 1) := by decide +kernel
theorem dL_law_644 : decode cL_law 644 = .ok (.invokevirtual 64, 3) := by decide +kernel
theorem dL_law_647 : decode cL_law 647 = .ok (.if_icmp .eq 617, 3) := by decide +kernel
theorem dL_law_650 : decode cL_law 650 = .ok (.iconst 0, 1) := by decide +kernel
theorem dL_law_651 : decode cL_law 651 = .ok (.ireturn, 1) := by decide +kernel
theorem dL_law_652 : decode cL_law 652 = .ok (.aload_n 1, 1) := by decide +kernel
theorem dL_law_653 : decode cL_law 653 = .ok (.invokevirtual 65, 3) := by decide +kernel
theorem dL_law_656 : decode cL_law 656 = .ok (.aload_n 2, 1) := by decide +kernel
theorem dL_law_657 : decode cL_law 657 = .ok (.invokevirtual 69, 3) := by decide +kernel
theorem dL_law_660 : decode cL_law 660 = .ok (.if_icmp .eq 604, 3) := by decide +kernel
theorem dL_law_663 : decode cL_law 663 = .ok (.iconst 0, 1) := by decide +kernel
theorem dL_law_664 : decode cL_law 664 = .ok (.ireturn, 1) := by decide +kernel
theorem dL_law_665 : decode cL_law 665 = .ok (.aload_n 1, 1) := by decide +kernel
theorem dL_law_666 : decode cL_law 666 = .ok (.aload_n 0, 1) := by decide +kernel
theorem dL_law_667 : decode cL_law 667 = .ok (.iload_n 3, 1) := by decide +kernel
theorem dL_law_668 : decode cL_law 668 = .ok (.iconst 1, 1) := by decide +kernel
theorem dL_law_669 : decode cL_law 669 = .ok (.iadd, 1) := by decide +kernel
theorem dL_law_670 : decode cL_law 670 = .ok (.iaload, 1) := by decide +kernel
theorem dL_law_671 : decode cL_law 671 = .ok (.aload_n 0, 1) := by decide +kernel
theorem dL_law_672 : decode cL_law 672 = .ok (.iload_n 3, 1) := by decide +kernel
theorem dL_law_673 : decode cL_law 673 = .ok (.iconst 2, 1) := by decide +kernel
theorem dL_law_674 : decode cL_law 674 = .ok (.iadd, 1) := by decide +kernel
theorem dL_law_675 : decode cL_law 675 = .ok (.iaload, 1) := by decide +kernel
theorem dL_law_676 : decode cL_law 676 = .ok (.invokevirtual 70, 3) := by decide +kernel
theorem dL_law_679 : decode cL_law 679 = .ok (.aload_n 2, 1) := by decide +kernel
theorem dL_law_680 : decode cL_law 680 = .ok (.aload_n 0, 1) := by decide +kernel
theorem dL_law_681 : decode cL_law 681 = .ok (.iload_n 3, 1) := by decide +kernel
theorem dL_law_682 : decode cL_law 682 = .ok (.iconst 1, 1) := by decide +kernel
theorem dL_law_683 : decode cL_law 683 = .ok (.iadd, 1) := by decide +kernel
theorem dL_law_684 : decode cL_law 684 = .ok (.iaload, 1) := by decide +kernel
theorem dL_law_685 : decode cL_law 685 = .ok (.aload_n 0, 1) := by decide +kernel
theorem dL_law_686 : decode cL_law 686 = .ok (.iload_n 3, 1) := by decide +kernel
theorem dL_law_687 : decode cL_law 687 = .ok (.iconst 2, 1) := by decide +kernel
theorem dL_law_688 : decode cL_law 688 = .ok (.iadd, 1) := by decide +kernel
theorem dL_law_689 : decode cL_law 689 = .ok (.iaload, 1) := by decide +kernel
theorem dL_law_690 : decode cL_law 690 = .ok (.invokevirtual 73, 3) := by decide +kernel
theorem dL_law_693 : decode cL_law 693 = .ok (.if_icmp .eq 571, 3) := by decide +kernel
theorem dL_law_696 : decode cL_law 696 = .ok (.iconst 0, 1) := by decide +kernel
theorem dL_law_697 : decode cL_law 697 = .ok (.ireturn, 1) := by decide +kernel
theorem dL_law_698 : decode cL_law 698 = .ok (.aload_n 1, 1) := by decide +kernel
theorem dL_law_699 : decode cL_law 699 = .ok (.aload_n 0, 1) := by decide +kernel
theorem dL_law_700 : decode cL_law 700 = .ok (.iload_n 3, 1) := by decide +kernel
theorem dL_law_701 : decode cL_law 701 = .ok (.iconst 1, 1) := by decide +kernel
theorem dL_law_702 : decode cL_law 702 = .ok (.iadd, 1) := by decide +kernel
theorem dL_law_703 : decode cL_law 703 = .ok (.iaload, 1) := by decide +kernel
theorem dL_law_704 : decode cL_law 704 = .ok (.invokevirtual 74, 3) := by decide +kernel
theorem dL_law_707 : decode cL_law 707 = .ok (.aload_n 2, 1) := by decide +kernel
theorem dL_law_708 : decode cL_law 708 = .ok (.aload_n 0, 1) := by decide +kernel
theorem dL_law_709 : decode cL_law 709 = .ok (.iload_n 3, 1) := by decide +kernel
theorem dL_law_710 : decode cL_law 710 = .ok (.iconst 1, 1) := by decide +kernel
theorem dL_law_711 : decode cL_law 711 = .ok (.iadd, 1) := by decide +kernel
theorem dL_law_712 : decode cL_law 712 = .ok (.iaload, 1) := by decide +kernel
theorem dL_law_713 : decode cL_law 713 = .ok (.invokevirtual 77, 3) := by decide +kernel
theorem dL_law_716 : decode cL_law 716 = .ok (.if_icmp .eq 548, 3) := by decide +kernel
theorem dL_law_719 : decode cL_law 719 = .ok (.iconst 0, 1) := by decide +kernel
theorem dL_law_720 : decode cL_law 720 = .ok (.ireturn, 1) := by decide +kernel
theorem dL_law_721 : decode cL_law 721 = .ok (.aload_n 1, 1) := by decide +kernel
theorem dL_law_722 : decode cL_law 722 = .ok (.aload_n 0, 1) := by decide +kernel
theorem dL_law_723 : decode cL_law 723 = .ok (.iload_n 3, 1) := by decide +kernel
theorem dL_law_724 : decode cL_law 724 = .ok (.iconst 1, 1) := by decide +kernel
theorem dL_law_725 : decode cL_law 725 = .ok (.iadd, 1) := by decide +kernel
theorem dL_law_726 : decode cL_law 726 = .ok (.iaload, 1) := by decide +kernel
theorem dL_law_727 : decode cL_law 727 = .ok (.aload_n 0, 1) := by decide +kernel
theorem dL_law_728 : decode cL_law 728 = .ok (.iload_n 3, 1) := by decide +kernel
theorem dL_law_729 : decode cL_law 729 = .ok (.iconst 2, 1) := by decide +kernel
theorem dL_law_730 : decode cL_law 730 = .ok (.iadd, 1) := by decide +kernel
theorem dL_law_731 : decode cL_law 731 = .ok (.iaload, 1) := by decide +kernel
theorem dL_law_732 : decode cL_law 732 = .ok (.aload_n 0, 1) := by decide +kernel
theorem dL_law_733 : decode cL_law 733 = .ok (.iload_n 3, 1) := by decide +kernel
theorem dL_law_734 : decode cL_law 734 = .ok (.iconst 3, 1) := by decide +kernel
theorem dL_law_735 : decode cL_law 735 = .ok (.iadd, 1) := by decide +kernel
theorem dL_law_736 : decode cL_law 736 = .ok (.iaload, 1) := by decide +kernel
theorem dL_law_737 : decode cL_law 737 = .ok (.aload_n 0, 1) := by decide +kernel
theorem dL_law_738 : decode cL_law 738 = .ok (.iload_n 3, 1) := by decide +kernel
theorem dL_law_739 : decode cL_law 739 = .ok (.iconst 4, 1) := by decide +kernel
theorem dL_law_740 : decode cL_law 740 = .ok (.iadd, 1) := by decide +kernel
theorem dL_law_741 : decode cL_law 741 = .ok (.iaload, 1) := by decide +kernel
theorem dL_law_742 : decode cL_law 742 = .ok (.invokevirtual 78, 3) := by decide +kernel
theorem dL_law_745 : decode cL_law 745 = .ok (.aload_n 2, 1) := by decide +kernel
theorem dL_law_746 : decode cL_law 746 = .ok (.aload_n 0, 1) := by decide +kernel
theorem dL_law_747 : decode cL_law 747 = .ok (.iload_n 3, 1) := by decide +kernel
theorem dL_law_748 : decode cL_law 748 = .ok (.iconst 1, 1) := by decide +kernel
theorem dL_law_749 : decode cL_law 749 = .ok (.iadd, 1) := by decide +kernel
theorem dL_law_750 : decode cL_law 750 = .ok (.iaload, 1) := by decide +kernel
theorem dL_law_751 : decode cL_law 751 = .ok (.aload_n 0, 1) := by decide +kernel
theorem dL_law_752 : decode cL_law 752 = .ok (.iload_n 3, 1) := by decide +kernel
theorem dL_law_753 : decode cL_law 753 = .ok (.iconst 2, 1) := by decide +kernel
theorem dL_law_754 : decode cL_law 754 = .ok (.iadd, 1) := by decide +kernel
theorem dL_law_755 : decode cL_law 755 = .ok (.iaload, 1) := by decide +kernel
end
section
theorem dL_law_756 : decode cL_law 756 = .ok (.aload_n 0, 1) := by decide +kernel
theorem dL_law_757 : decode cL_law 757 = .ok (.iload_n 3, 1) := by decide +kernel
theorem dL_law_758 : decode cL_law 758 = .ok (.iconst 3, 1) := by decide +kernel
theorem dL_law_759 : decode cL_law 759 = .ok (.iadd, 1) := by decide +kernel
theorem dL_law_760 : decode cL_law 760 = .ok (.iaload, 1) := by decide +kernel
theorem dL_law_761 : decode cL_law 761 = .ok (.aload_n 0, 1) := by decide +kernel
theorem dL_law_762 : decode cL_law 762 = .ok (.iload_n 3, 1) := by decide +kernel
theorem dL_law_763 : decode cL_law 763 = .ok (.iconst 4, 1) := by decide +kernel
theorem dL_law_764 : decode cL_law 764 = .ok (.iadd, 1) := by decide +kernel
theorem dL_law_765 : decode cL_law 765 = .ok (.iaload, 1) := by decide +kernel
theorem dL_law_766 : decode cL_law 766 = .ok (.invokevirtual 81, 3) := by decide +kernel
theorem dL_law_769 : decode cL_law 769 = .ok (.if_icmp .eq 495, 3) := by decide +kernel
theorem dL_law_772 : decode cL_law 772 = .ok (.iconst 0, 1) := by decide +kernel
theorem dL_law_773 : decode cL_law 773 = .ok (.ireturn, 1) := by decide +kernel
theorem dL_law_774 : decode cL_law 774 = .ok (.aload_n 1, 1) := by decide +kernel
theorem dL_law_775 : decode cL_law 775 = .ok (.aload_n 0, 1) := by decide +kernel
theorem dL_law_776 : decode cL_law 776 = .ok (.iload_n 3, 1) := by decide +kernel
theorem dL_law_777 : decode cL_law 777 = .ok (.iconst 1, 1) := by decide +kernel
theorem dL_law_778 : decode cL_law 778 = .ok (.iadd, 1) := by decide +kernel
theorem dL_law_779 : decode cL_law 779 = .ok (.iaload, 1) := by decide +kernel
theorem dL_law_780 : decode cL_law 780 = .ok (.aload_n 0, 1) := by decide +kernel
theorem dL_law_781 : decode cL_law 781 = .ok (.iload_n 3, 1) := by decide +kernel
theorem dL_law_782 : decode cL_law 782 = .ok (.iconst 2, 1) := by decide +kernel
theorem dL_law_783 : decode cL_law 783 = .ok (.iadd, 1) := by decide +kernel
theorem dL_law_784 : decode cL_law 784 = .ok (.iaload, 1) := by decide +kernel
theorem dL_law_785 : decode cL_law 785 = .ok (.aload_n 0, 1) := by decide +kernel
theorem dL_law_786 : decode cL_law 786 = .ok (.iload_n 3, 1) := by decide +kernel
theorem dL_law_787 : decode cL_law 787 = .ok (.iconst 3, 1) := by decide +kernel
theorem dL_law_788 : decode cL_law 788 = .ok (.iadd, 1) := by decide +kernel
theorem dL_law_789 : decode cL_law 789 = .ok (.iaload, 1) := by decide +kernel
theorem dL_law_790 : decode cL_law 790 = .ok (.invokevirtual 82, 3) := by decide +kernel
theorem dL_law_793 : decode cL_law 793 = .ok (.aload_n 2, 1) := by decide +kernel
theorem dL_law_794 : decode cL_law 794 = .ok (.aload_n 0, 1) := by decide +kernel
theorem dL_law_795 : decode cL_law 795 = .ok (.iload_n 3, 1) := by decide +kernel
theorem dL_law_796 : decode cL_law 796 = .ok (.iconst 1, 1) := by decide +kernel
theorem dL_law_797 : decode cL_law 797 = .ok (.iadd, 1) := by decide +kernel
theorem dL_law_798 : decode cL_law 798 = .ok (.iaload, 1) := by decide +kernel
theorem dL_law_799 : decode cL_law 799 = .ok (.aload_n 0, 1) := by decide +kernel
theorem dL_law_800 : decode cL_law 800 = .ok (.iload_n 3, 1) := by decide +kernel
theorem dL_law_801 : decode cL_law 801 = .ok (.iconst 2, 1) := by decide +kernel
theorem dL_law_802 : decode cL_law 802 = .ok (.iadd, 1) := by decide +kernel
theorem dL_law_803 : decode cL_law 803 = .ok (.iaload, 1) := by decide +kernel
theorem dL_law_804 : decode cL_law 804 = .ok (.aload_n 0, 1) := by decide +kernel
theorem dL_law_805 : decode cL_law 805 = .ok (.iload_n 3, 1) := by decide +kernel
theorem dL_law_806 : decode cL_law 806 = .ok (.iconst 3, 1) := by decide +kernel
theorem dL_law_807 : decode cL_law 807 = .ok (.iadd, 1) := by decide +kernel
theorem dL_law_808 : decode cL_law 808 = .ok (.iaload, 1) := by decide +kernel
theorem dL_law_809 : decode cL_law 809 = .ok (.invokevirtual 86, 3) := by decide +kernel
theorem dL_law_812 : decode cL_law 812 = .ok (.if_icmp .eq 452, 3) := by decide +kernel
theorem dL_law_815 : decode cL_law 815 = .ok (.iconst 0, 1) := by decide +kernel
theorem dL_law_816 : decode cL_law 816 = .ok (.ireturn, 1) := by decide +kernel
theorem dL_law_817 : decode cL_law 817 = .ok (.aload_n 1, 1) := by decide +kernel
theorem dL_law_818 : decode cL_law 818 = .ok (.aload_n 0, 1) := by decide +kernel
theorem dL_law_819 : decode cL_law 819 = .ok (.iload_n 3, 1) := by decide +kernel
theorem dL_law_820 : decode cL_law 820 = .ok (.iconst 1, 1) := by decide +kernel
theorem dL_law_821 : decode cL_law 821 = .ok (.iadd, 1) := by decide +kernel
theorem dL_law_822 : decode cL_law 822 = .ok (.iaload, 1) := by decide +kernel
theorem dL_law_823 : decode cL_law 823 = .ok (.invokevirtual 87, 3) := by decide +kernel
theorem dL_law_826 : decode cL_law 826 = .ok (.aload_n 2, 1) := by decide +kernel
theorem dL_law_827 : decode cL_law 827 = .ok (.aload_n 0, 1) := by decide +kernel
theorem dL_law_828 : decode cL_law 828 = .ok (.iload_n 3, 1) := by decide +kernel
theorem dL_law_829 : decode cL_law 829 = .ok (.iconst 1, 1) := by decide +kernel
theorem dL_law_830 : decode cL_law 830 = .ok (.iadd, 1) := by decide +kernel
theorem dL_law_831 : decode cL_law 831 = .ok (.iaload, 1) := by decide +kernel
theorem dL_law_832 : decode cL_law 832 = .ok (.invokevirtual 90, 3) := by decide +kernel
theorem dL_law_835 : decode cL_law 835 = .ok (.if_icmp .eq 429, 3) := by decide +kernel
theorem dL_law_838 : decode cL_law 838 = .ok (.iconst 0, 1) := by decide +kernel
theorem dL_law_839 : decode cL_law 839 = .ok (.ireturn, 1) := by decide +kernel
theorem dL_law_840 : decode cL_law 840 = .ok (.aload_n 1, 1) := by decide +kernel
theorem dL_law_841 : decode cL_law 841 = .ok (.aload_n 0, 1) := by decide +kernel
theorem dL_law_842 : decode cL_law 842 = .ok (.iload_n 3, 1) := by decide +kernel
theorem dL_law_843 : decode cL_law 843 = .ok (.iconst 1, 1) := by decide +kernel
theorem dL_law_844 : decode cL_law 844 = .ok (.iadd, 1) := by decide +kernel
theorem dL_law_845 : decode cL_law 845 = .ok (.iaload, 1) := by decide +kernel
theorem dL_law_846 : decode cL_law 846 = .ok (.invokevirtual 91, 3) := by decide +kernel
theorem dL_law_849 : decode cL_law 849 = .ok (.aload_n 2, 1) := by decide +kernel
theorem dL_law_850 : decode cL_law 850 = .ok (.aload_n 0, 1) := by decide +kernel
theorem dL_law_851 : decode cL_law 851 = .ok (.iload_n 3, 1) := by decide +kernel
theorem dL_law_852 : decode cL_law 852 = .ok (.iconst 1, 1) := by decide +kernel
theorem dL_law_853 : decode cL_law 853 = .ok (.iadd, 1) := by decide +kernel
theorem dL_law_854 : decode cL_law 854 = .ok (.iaload, 1) := by decide +kernel
theorem dL_law_855 : decode cL_law 855 = .ok (.invokevirtual 94, 3) := by decide +kernel
theorem dL_law_858 : decode cL_law 858 = .ok (.if_icmp .eq 406, 3) := by decide +kernel
theorem dL_law_861 : decode cL_law 861 = .ok (.iconst 0, 1) := by decide +kernel
theorem dL_law_862 : decode cL_law 862 = .ok (.ireturn, 1) := by decide +kernel
theorem dL_law_863 : decode cL_law 863 = .ok (.aload_n 1, 1) := by decide +kernel
theorem dL_law_864 : decode cL_law 864 = .ok (.aload_n 0, 1) := by decide +kernel
theorem dL_law_865 : decode cL_law 865 = .ok (.iload_n 3, 1) := by decide +kernel
theorem dL_law_866 : decode cL_law 866 = .ok (.iconst 1, 1) := by decide +kernel
theorem dL_law_867 : decode cL_law 867 = .ok (.iadd, 1) := by decide +kernel
theorem dL_law_868 : decode cL_law 868 = .ok (.iaload, 1) := by decide +kernel
theorem dL_law_869 : decode cL_law 869 = .ok (.invokevirtual 95, 3) := by decide +kernel
theorem dL_law_872 : decode cL_law 872 = .ok (.aload_n 2, 1) := by decide +kernel
theorem dL_law_873 : decode cL_law 873 = .ok (.aload_n 0, 1) := by decide +kernel
theorem dL_law_874 : decode cL_law 874 = .ok (.iload_n 3, 1) := by decide +kernel
theorem dL_law_875 : decode cL_law 875 = .ok (.iconst 1, 1) := by decide +kernel
theorem dL_law_876 : decode cL_law 876 = .ok (.iadd, 1) := by decide +kernel
theorem dL_law_877 : decode cL_law 877 = .ok (.iaload, 1) := by decide +kernel
theorem dL_law_878 : decode cL_law 878 = .ok (.invokevirtual 98, 3) := by decide +kernel
theorem dL_law_881 : decode cL_law 881 = .ok (.if_icmp .eq 383, 3) := by decide +kernel
theorem dL_law_884 : decode cL_law 884 = .ok (.iconst 0, 1) := by decide +kernel
theorem dL_law_885 : decode cL_law 885 = .ok (.ireturn, 1) := by decide +kernel
theorem dL_law_886 : decode cL_law 886 = .ok (.aload_n 1, 1) := by decide +kernel
theorem dL_law_887 : decode cL_law 887 = .ok (.aload_n 0, 1) := by decide +kernel
theorem dL_law_888 : decode cL_law 888 = .ok (.iload_n 3, 1) := by decide +kernel
theorem dL_law_889 : decode cL_law 889 = .ok (.iconst 1, 1) := by decide +kernel
theorem dL_law_890 : decode cL_law 890 = .ok (.iadd, 1) := by decide +kernel
theorem dL_law_891 : decode cL_law 891 = .ok (.iaload, 1) := by decide +kernel
theorem dL_law_892 : decode cL_law 892 = .ok (.aload_n 0, 1) := by decide +kernel
theorem dL_law_893 : decode cL_law 893 = .ok (.iload_n 3, 1) := by decide +kernel
theorem dL_law_894 : decode cL_law 894 = .ok (.iconst 2, 1) := by decide +kernel
theorem dL_law_895 : decode cL_law 895 = .ok (.iadd, 1) := by decide +kernel
theorem dL_law_896 : decode cL_law 896 = .ok (.iaload, 1) := by decide +kernel
theorem dL_law_897 : decode cL_law 897 = .ok (.invokevirtual 99, 3) := by decide +kernel
theorem dL_law_900 : decode cL_law 900 = .ok (.aload_n 2, 1) := by decide +kernel
theorem dL_law_901 : decode cL_law 901 = .ok (.aload_n 0, 1) := by decide +kernel
theorem dL_law_902 : decode cL_law 902 = .ok (.iload_n 3, 1) := by decide +kernel
theorem dL_law_903 : decode cL_law 903 = .ok (.iconst 1, 1) := by decide +kernel
theorem dL_law_904 : decode cL_law 904 = .ok (.iadd, 1) := by decide +kernel
theorem dL_law_905 : decode cL_law 905 = .ok (.iaload, 1) := by decide +kernel
theorem dL_law_906 : decode cL_law 906 = .ok (.aload_n 0, 1) := by decide +kernel
theorem dL_law_907 : decode cL_law 907 = .ok (.iload_n 3, 1) := by decide +kernel
theorem dL_law_908 : decode cL_law 908 = .ok (.iconst 2, 1) := by decide +kernel
theorem dL_law_909 : decode cL_law 909 = .ok (.iadd, 1) := by decide +kernel
theorem dL_law_910 : decode cL_law 910 = .ok (.iaload, 1) := by decide +kernel
theorem dL_law_911 : decode cL_law 911 = .ok (.invokevirtual 103, 3) := by decide +kernel
theorem dL_law_914 : decode cL_law 914 = .ok (.lcmp, 1) := by decide +kernel
theorem dL_law_915 : decode cL_law 915 = .ok (.ifCond .eq 349, 3) := by decide +kernel
theorem dL_law_918 : decode cL_law 918 = .ok (.iconst 0, 1) := by decide +kernel
theorem dL_law_919 : decode cL_law 919 = .ok (.ireturn, 1) := by decide +kernel
theorem dL_law_920 : decode cL_law 920 = .ok (.aload_n 1, 1) := by decide +kernel
theorem dL_law_921 : decode cL_law 921 = .ok (.aload_n 0, 1) := by decide +kernel
theorem dL_law_922 : decode cL_law 922 = .ok (.iload_n 3, 1) := by decide +kernel
theorem dL_law_923 : decode cL_law 923 = .ok (.iconst 1, 1) := by decide +kernel
theorem dL_law_924 : decode cL_law 924 = .ok (.iadd, 1) := by decide +kernel
theorem dL_law_925 : decode cL_law 925 = .ok (.iaload, 1) := by decide +kernel
theorem dL_law_926 : decode cL_law 926 = .ok (.aload_n 0, 1) := by decide +kernel
theorem dL_law_927 : decode cL_law 927 = .ok (.iload_n 3, 1) := by decide +kernel
theorem dL_law_928 : decode cL_law 928 = .ok (.iconst 2, 1) := by decide +kernel
theorem dL_law_929 : decode cL_law 929 = .ok (.iadd, 1) := by decide +kernel
theorem dL_law_930 : decode cL_law 930 = .ok (.iaload, 1) := by decide +kernel
theorem dL_law_931 : decode cL_law 931 = .ok (.aload_n 0, 1) := by decide +kernel
theorem dL_law_932 : decode cL_law 932 = .ok (.iload_n 3, 1) := by decide +kernel
theorem dL_law_933 : decode cL_law 933 = .ok (.iconst 3, 1) := by decide +kernel
theorem dL_law_934 : decode cL_law 934 = .ok (.iadd, 1) := by decide +kernel
theorem dL_law_935 : decode cL_law 935 = .ok (.iaload, 1) := by decide +kernel
theorem dL_law_936 : decode cL_law 936 = .ok (.invokevirtual 104, 3) := by decide +kernel
theorem dL_law_939 : decode cL_law 939 = .ok (.aload_n 2, 1) := by decide +kernel
theorem dL_law_940 : decode cL_law 940 = .ok (.aload_n 0, 1) := by decide +kernel
theorem dL_law_941 : decode cL_law 941 = .ok (.iload_n 3, 1) := by decide +kernel
theorem dL_law_942 : decode cL_law 942 = .ok (.iconst 1, 1) := by decide +kernel
theorem dL_law_943 : decode cL_law 943 = .ok (.iadd, 1) := by decide +kernel
theorem dL_law_944 : decode cL_law 944 = .ok (.iaload, 1) := by decide +kernel
theorem dL_law_945 : decode cL_law 945 = .ok (.aload_n 0, 1) := by decide +kernel
theorem dL_law_946 : decode cL_law 946 = .ok (.iload_n 3, 1) := by decide +kernel
theorem dL_law_947 : decode cL_law 947 = .ok (.iconst 2, 1) := by decide +kernel
theorem dL_law_948 : decode cL_law 948 = .ok (.iadd, 1) := by decide +kernel
theorem dL_law_949 : decode cL_law 949 = .ok (.iaload, 1) := by decide +kernel
theorem dL_law_950 : decode cL_law 950 = .ok (.aload_n 0, 1) := by decide +kernel
theorem dL_law_951 : decode cL_law 951 = .ok (.iload_n 3, 1) := by decide +kernel
theorem dL_law_952 : decode cL_law 952 = .ok (.iconst 3, 1) := by decide +kernel
theorem dL_law_953 : decode cL_law 953 = .ok (.iadd, 1) := by decide +kernel
theorem dL_law_954 : decode cL_law 954 = .ok (.iaload, 1) := by decide +kernel
theorem dL_law_955 : decode cL_law 955 = .ok (.invokevirtual 107, 3) := by decide +kernel
theorem dL_law_958 : decode cL_law 958 = .ok (.if_icmp .eq 306, 3) := by decide +kernel
theorem dL_law_961 : decode cL_law 961 = .ok (.iconst 0, 1) := by decide +kernel
theorem dL_law_962 : decode cL_law 962 = .ok (.ireturn, 1) := by decide +kernel
theorem dL_law_963 : decode cL_law 963 = .ok (.aload_n 1, 1) := by decide +kernel
theorem dL_law_964 : decode cL_law 964 = .ok (.aload_n 0, 1) := by decide +kernel
theorem dL_law_965 : decode cL_law 965 = .ok (.iload_n 3, 1) := by decide +kernel
theorem dL_law_966 : decode cL_law 966 = .ok (.iconst 1, 1) := by decide +kernel
theorem dL_law_967 : decode cL_law 967 = .ok (.iadd, 1) := by decide +kernel
theorem dL_law_968 : decode cL_law 968 = .ok (.iaload, 1) := by decide +kernel
theorem dL_law_969 : decode cL_law 969 = .ok (.invokevirtual 108, 3) := by decide +kernel
theorem dL_law_972 : decode cL_law 972 = .ok (.aload_n 2, 1) := by decide +kernel
theorem dL_law_973 : decode cL_law 973 = .ok (.aload_n 0, 1) := by decide +kernel
theorem dL_law_974 : decode cL_law 974 = .ok (.iload_n 3, 1) := by decide +kernel
theorem dL_law_975 : decode cL_law 975 = .ok (.iconst 1, 1) := by decide +kernel
theorem dL_law_976 : decode cL_law 976 = .ok (.iadd, 1) := by decide +kernel
theorem dL_law_977 : decode cL_law 977 = .ok (.iaload, 1) := by decide +kernel
theorem dL_law_978 : decode cL_law 978 = .ok (.invokevirtual 111, 3) := by decide +kernel
theorem dL_law_981 : decode cL_law 981 = .ok (.if_icmp .eq 283, 3) := by decide +kernel
theorem dL_law_984 : decode cL_law 984 = .ok (.iconst 0, 1) := by decide +kernel
theorem dL_law_985 : decode cL_law 985 = .ok (.ireturn, 1) := by decide +kernel
theorem dL_law_986 : decode cL_law 986 = .ok (.aload_n 1, 1) := by decide +kernel
theorem dL_law_987 : decode cL_law 987 = .ok (.aload_n 0, 1) := by decide +kernel
theorem dL_law_988 : decode cL_law 988 = .ok (.iload_n 3, 1) := by decide +kernel
theorem dL_law_989 : decode cL_law 989 = .ok (.iconst 1, 1) := by decide +kernel
theorem dL_law_990 : decode cL_law 990 = .ok (.iadd, 1) := by decide +kernel
theorem dL_law_991 : decode cL_law 991 = .ok (.iaload, 1) := by decide +kernel
theorem dL_law_992 : decode cL_law 992 = .ok (.aload_n 0, 1) := by decide +kernel
theorem dL_law_993 : decode cL_law 993 = .ok (.iload_n 3, 1) := by decide +kernel
theorem dL_law_994 : decode cL_law 994 = .ok (.iconst 2, 1) := by decide +kernel
theorem dL_law_995 : decode cL_law 995 = .ok (.iadd, 1) := by decide +kernel
theorem dL_law_996 : decode cL_law 996 = .ok (.iaload, 1) := by decide +kernel
theorem dL_law_997 : decode cL_law 997 = .ok (.aload_n 0, 1) := by decide +kernel
theorem dL_law_998 : decode cL_law 998 = .ok (.iload_n 3, 1) := by decide +kernel
theorem dL_law_999 : decode cL_law 999 = .ok (.iconst 3, 1) := by decide +kernel
theorem dL_law_1000 : decode cL_law 1000 = .ok (.iadd, 1) := by decide +kernel
theorem dL_law_1001 : decode cL_law 1001 = .ok (.iaload, 1) := by decide +kernel
theorem dL_law_1002 : decode cL_law 1002 = .ok (.invokevirtual 112, 3) := by decide +kernel
theorem dL_law_1005 : decode cL_law 1005 = .ok (.aload_n 2, 1) := by decide +kernel
theorem dL_law_1006 : decode cL_law 1006 = .ok (.aload_n 0, 1) := by decide +kernel
theorem dL_law_1007 : decode cL_law 1007 = .ok (.iload_n 3, 1) := by decide +kernel
theorem dL_law_1008 : decode cL_law 1008 = .ok (.iconst 1, 1) := by decide +kernel
theorem dL_law_1009 : decode cL_law 1009 = .ok (.iadd, 1) := by decide +kernel
theorem dL_law_1010 : decode cL_law 1010 = .ok (.iaload, 1) := by decide +kernel
theorem dL_law_1011 : decode cL_law 1011 = .ok (.aload_n 0, 1) := by decide +kernel
theorem dL_law_1012 : decode cL_law 1012 = .ok (.iload_n 3, 1) := by decide +kernel
theorem dL_law_1013 : decode cL_law 1013 = .ok (.iconst 2, 1) := by decide +kernel
theorem dL_law_1014 : decode cL_law 1014 = .ok (.iadd, 1) := by decide +kernel
theorem dL_law_1015 : decode cL_law 1015 = .ok (.iaload, 1) := by decide +kernel
theorem dL_law_1016 : decode cL_law 1016 = .ok (.aload_n 0, 1) := by decide +kernel
theorem dL_law_1017 : decode cL_law 1017 = .ok (.iload_n 3, 1) := by decide +kernel
theorem dL_law_1018 : decode cL_law 1018 = .ok (.iconst 3, 1) := by decide +kernel
theorem dL_law_1019 : decode cL_law 1019 = .ok (.iadd, 1) := by decide +kernel
theorem dL_law_1020 : decode cL_law 1020 = .ok (.iaload, 1) := by decide +kernel
theorem dL_law_1021 : decode cL_law 1021 = .ok (.invokevirtual 115, 3) := by decide +kernel
theorem dL_law_1024 : decode cL_law 1024 = .ok (.if_icmp .eq 240, 3) := by decide +kernel
theorem dL_law_1027 : decode cL_law 1027 = .ok (.iconst 0, 1) := by decide +kernel
theorem dL_law_1028 : decode cL_law 1028 = .ok (.ireturn, 1) := by decide +kernel
theorem dL_law_1029 : decode cL_law 1029 = .ok (.aload_n 1, 1) := by decide +kernel
theorem dL_law_1030 : decode cL_law 1030 = .ok (.aload_n 0, 1) := by decide +kernel
theorem dL_law_1031 : decode cL_law 1031 = .ok (.iload_n 3, 1) := by decide +kernel
theorem dL_law_1032 : decode cL_law 1032 = .ok (.iconst 1, 1) := by decide +kernel
theorem dL_law_1033 : decode cL_law 1033 = .ok (.iadd, 1) := by decide +kernel
theorem dL_law_1034 : decode cL_law 1034 = .ok (.iaload, 1) := by decide +kernel
theorem dL_law_1035 : decode cL_law 1035 = .ok (.aload_n 0, 1) := by decide +kernel
theorem dL_law_1036 : decode cL_law 1036 = .ok (.iload_n 3, 1) := by decide +kernel
theorem dL_law_1037 : decode cL_law 1037 = .ok (.iconst 2, 1) := by decide +kernel
theorem dL_law_1038 : decode cL_law 1038 = .ok (.iadd, 1) := by decide +kernel
theorem dL_law_1039 : decode cL_law 1039 = .ok (.iaload, 1) := by decide +kernel
theorem dL_law_1040 : decode cL_law 1040 = .ok (.aload_n 0, 1) := by decide +kernel
theorem dL_law_1041 : decode cL_law 1041 = .ok (.iload_n 3, 1) := by decide +kernel
theorem dL_law_1042 : decode cL_law 1042 = .ok (.iconst 3, 1) := by decide +kernel
theorem dL_law_1043 : decode cL_law 1043 = .ok (.iadd, 1) := by decide +kernel
theorem dL_law_1044 : decode cL_law 1044 = .ok (.iaload, 1) := by decide +kernel
theorem dL_law_1045 : decode cL_law 1045 = .ok (.invokevirtual 116, 3) := by decide +kernel
theorem dL_law_1048 : decode cL_law 1048 = .ok (.aload_n 2, 1) := by decide +kernel
theorem dL_law_1049 : decode cL_law 1049 = .ok (.aload_n 0, 1) := by decide +kernel
theorem dL_law_1050 : decode cL_law 1050 = .ok (.iload_n 3, 1) := by decide +kernel
theorem dL_law_1051 : decode cL_law 1051 = .ok (.iconst 1, 1) := by decide +kernel
theorem dL_law_1052 : decode cL_law 1052 = .ok (.iadd, 1) := by decide +kernel
theorem dL_law_1053 : decode cL_law 1053 = .ok (.iaload, 1) := by decide +kernel
theorem dL_law_1054 : decode cL_law 1054 = .ok (.aload_n 0, 1) := by decide +kernel
theorem dL_law_1055 : decode cL_law 1055 = .ok (.iload_n 3, 1) := by decide +kernel
theorem dL_law_1056 : decode cL_law 1056 = .ok (.iconst 2, 1) := by decide +kernel
theorem dL_law_1057 : decode cL_law 1057 = .ok (.iadd, 1) := by decide +kernel
theorem dL_law_1058 : decode cL_law 1058 = .ok (.iaload, 1) := by decide +kernel
theorem dL_law_1059 : decode cL_law 1059 = .ok (.aload_n 0, 1) := by decide +kernel
end
section
theorem dL_law_1060 : decode cL_law 1060 = .ok (.iload_n 3, 1) := by decide +kernel
theorem dL_law_1061 : decode cL_law 1061 = .ok (.iconst 3, 1) := by decide +kernel
theorem dL_law_1062 : decode cL_law 1062 = .ok (.iadd, 1) := by decide +kernel
theorem dL_law_1063 : decode cL_law 1063 = .ok (.iaload, 1) := by decide +kernel
theorem dL_law_1064 : decode cL_law 1064 = .ok (.invokevirtual 120, 3) := by decide +kernel
theorem dL_law_1067 : decode cL_law 1067 = .ok (.lcmp, 1) := by decide +kernel
theorem dL_law_1068 : decode cL_law 1068 = .ok (.ifCond .eq 196, 3) := by decide +kernel
theorem dL_law_1071 : decode cL_law 1071 = .ok (.iconst 0, 1) := by decide +kernel
theorem dL_law_1072 : decode cL_law 1072 = .ok (.ireturn, 1) := by decide +kernel
theorem dL_law_1073 : decode cL_law 1073 = .ok (.aload_n 1, 1) := by decide +kernel
theorem dL_law_1074 : decode cL_law 1074 = .ok (.aload_n 0, 1) := by decide +kernel
theorem dL_law_1075 : decode cL_law 1075 = .ok (.iload_n 3, 1) := by decide +kernel
theorem dL_law_1076 : decode cL_law 1076 = .ok (.iconst 1, 1) := by decide +kernel
theorem dL_law_1077 : decode cL_law 1077 = .ok (.iadd, 1) := by decide +kernel
theorem dL_law_1078 : decode cL_law 1078 = .ok (.iaload, 1) := by decide +kernel
theorem dL_law_1079 : decode cL_law 1079 = .ok (.aload_n 0, 1) := by decide +kernel
theorem dL_law_1080 : decode cL_law 1080 = .ok (.iload_n 3, 1) := by decide +kernel
theorem dL_law_1081 : decode cL_law 1081 = .ok (.iconst 2, 1) := by decide +kernel
theorem dL_law_1082 : decode cL_law 1082 = .ok (.iadd, 1) := by decide +kernel
theorem dL_law_1083 : decode cL_law 1083 = .ok (.iaload, 1) := by decide +kernel
theorem dL_law_1084 : decode cL_law 1084 = .ok (.aload_n 0, 1) := by decide +kernel
theorem dL_law_1085 : decode cL_law 1085 = .ok (.iload_n 3, 1) := by decide +kernel
theorem dL_law_1086 : decode cL_law 1086 = .ok (.iconst 3, 1) := by decide +kernel
theorem dL_law_1087 : decode cL_law 1087 = .ok (.iadd, 1) := by decide +kernel
theorem dL_law_1088 : decode cL_law 1088 = .ok (.iaload, 1) := by decide +kernel
theorem dL_law_1089 : decode cL_law 1089 = .ok (.aload_n 0, 1) := by decide +kernel
theorem dL_law_1090 : decode cL_law 1090 = .ok (.iload_n 3, 1) := by decide +kernel
theorem dL_law_1091 : decode cL_law 1091 = .ok (.iconst 4, 1) := by decide +kernel
theorem dL_law_1092 : decode cL_law 1092 = .ok (.iadd, 1) := by decide +kernel
theorem dL_law_1093 : decode cL_law 1093 = .ok (.iaload, 1) := by decide +kernel
theorem dL_law_1094 : decode cL_law 1094 = .ok (.aload_n 0, 1) := by decide +kernel
theorem dL_law_1095 : decode cL_law 1095 = .ok (.iload_n 3, 1) := by decide +kernel
theorem dL_law_1096 : decode cL_law 1096 = .ok (.iconst 5, 1) := by decide +kernel
theorem dL_law_1097 : decode cL_law 1097 = .ok (.iadd, 1) := by decide +kernel
theorem dL_law_1098 : decode cL_law 1098 = .ok (.iaload, 1) := by decide +kernel
theorem dL_law_1099 : decode cL_law 1099 = .ok (.invokevirtual 121, 3) := by decide +kernel
theorem dL_law_1102 : decode cL_law 1102 = .ok (.aload_n 2, 1) := by decide +kernel
theorem dL_law_1103 : decode cL_law 1103 = .ok (.aload_n 0, 1) := by decide +kernel
theorem dL_law_1104 : decode cL_law 1104 = .ok (.iload_n 3, 1) := by decide +kernel
theorem dL_law_1105 : decode cL_law 1105 = .ok (.iconst 1, 1) := by decide +kernel
theorem dL_law_1106 : decode cL_law 1106 = .ok (.iadd, 1) := by decide +kernel
theorem dL_law_1107 : decode cL_law 1107 = .ok (.iaload, 1) := by decide +kernel
theorem dL_law_1108 : decode cL_law 1108 = .ok (.aload_n 0, 1) := by decide +kernel
theorem dL_law_1109 : decode cL_law 1109 = .ok (.iload_n 3, 1) := by decide +kernel
theorem dL_law_1110 : decode cL_law 1110 = .ok (.iconst 2, 1) := by decide +kernel
theorem dL_law_1111 : decode cL_law 1111 = .ok (.iadd, 1) := by decide +kernel
theorem dL_law_1112 : decode cL_law 1112 = .ok (.iaload, 1) := by decide +kernel
theorem dL_law_1113 : decode cL_law 1113 = .ok (.aload_n 0, 1) := by decide +kernel
theorem dL_law_1114 : decode cL_law 1114 = .ok (.iload_n 3, 1) := by decide +kernel
theorem dL_law_1115 : decode cL_law 1115 = .ok (.iconst 3, 1) := by decide +kernel
theorem dL_law_1116 : decode cL_law 1116 = .ok (.iadd, 1) := by decide +kernel
theorem dL_law_1117 : decode cL_law 1117 = .ok (.iaload, 1) := by decide +kernel
theorem dL_law_1118 : decode cL_law 1118 = .ok (.aload_n 0, 1) := by decide +kernel
theorem dL_law_1119 : decode cL_law 1119 = .ok (.iload_n 3, 1) := by decide +kernel
theorem dL_law_1120 : decode cL_law 1120 = .ok (.iconst 4, 1) := by decide +kernel
theorem dL_law_1121 : decode cL_law 1121 = .ok (.iadd, 1) := by decide +kernel
theorem dL_law_1122 : decode cL_law 1122 = .ok (.iaload, 1) := by decide +kernel
theorem dL_law_1123 : decode cL_law 1123 = .ok (.aload_n 0, 1) := by decide +kernel
theorem dL_law_1124 : decode cL_law 1124 = .ok (.iload_n 3, 1) := by decide +kernel
theorem dL_law_1125 : decode cL_law 1125 = .ok (.iconst 5, 1) := by decide +kernel
theorem dL_law_1126 : decode cL_law 1126 = .ok (.iadd, 1) := by decide +kernel
theorem dL_law_1127 : decode cL_law 1127 = .ok (.iaload, 1) := by decide +kernel
theorem dL_law_1128 : decode cL_law 1128 = .ok (.invokevirtual 124, 3) := by decide +kernel
theorem dL_law_1131 : decode cL_law 1131 = .ok (.if_icmp .eq 133, 3) := by decide +kernel
theorem dL_law_1134 : decode cL_law 1134 = .ok (.iconst 0, 1) := by decide +kernel
theorem dL_law_1135 : decode cL_law 1135 = .ok (.ireturn, 1) := by decide +kernel
theorem dL_law_1136 : decode cL_law 1136 = .ok (.aload_n 1, 1) := by decide +kernel
theorem dL_law_1137 : decode cL_law 1137 = .ok (.aload_n 0, 1) := by decide +kernel
theorem dL_law_1138 : decode cL_law 1138 = .ok (.iload_n 3, 1) := by decide +kernel
theorem dL_law_1139 : decode cL_law 1139 = .ok (.iconst 1, 1) := by decide +kernel
theorem dL_law_1140 : decode cL_law 1140 = .ok (.iadd, 1) := by decide +kernel
theorem dL_law_1141 : decode cL_law 1141 = .ok (.iaload, 1) := by decide +kernel
theorem dL_law_1142 : decode cL_law 1142 = .ok (.invokevirtual 125, 3) := by decide +kernel
theorem dL_law_1145 : decode cL_law 1145 = .ok (.aload_n 2, 1) := by decide +kernel
theorem dL_law_1146 : decode cL_law 1146 = .ok (.aload_n 0, 1) := by decide +kernel
theorem dL_law_1147 : decode cL_law 1147 = .ok (.iload_n 3, 1) := by decide +kernel
theorem dL_law_1148 : decode cL_law 1148 = .ok (.iconst 1, 1) := by decide +kernel
theorem dL_law_1149 : decode cL_law 1149 = .ok (.iadd, 1) := by decide +kernel
theorem dL_law_1150 : decode cL_law 1150 = .ok (.iaload, 1) := by decide +kernel
theorem dL_law_1151 : decode cL_law 1151 = .ok (.invokevirtual 128, 3) := by decide +kernel
theorem dL_law_1154 : decode cL_law 1154 = .ok (.if_icmp .eq 110, 3) := by decide +kernel
theorem dL_law_1157 : decode cL_law 1157 = .ok (.iconst 0, 1) := by decide +kernel
theorem dL_law_1158 : decode cL_law 1158 = .ok (.ireturn, 1) := by decide +kernel
theorem dL_law_1159 : decode cL_law 1159 = .ok (.aload_n 1, 1) := by decide +kernel
theorem dL_law_1160 : decode cL_law 1160 = .ok (.aload_n 0, 1) := by decide +kernel
theorem dL_law_1161 : decode cL_law 1161 = .ok (.iload_n 3, 1) := by decide +kernel
theorem dL_law_1162 : decode cL_law 1162 = .ok (.iconst 1, 1) := by decide +kernel
theorem dL_law_1163 : decode cL_law 1163 = .ok (.iadd, 1) := by decide +kernel
theorem dL_law_1164 : decode cL_law 1164 = .ok (.iaload, 1) := by decide +kernel
theorem dL_law_1165 : decode cL_law 1165 = .ok (.invokevirtual 129, 3) := by decide +kernel
theorem dL_law_1168 : decode cL_law 1168 = .ok (.aload_n 2, 1) := by decide +kernel
theorem dL_law_1169 : decode cL_law 1169 = .ok (.aload_n 0, 1) := by decide +kernel
theorem dL_law_1170 : decode cL_law 1170 = .ok (.iload_n 3, 1) := by decide +kernel
theorem dL_law_1171 : decode cL_law 1171 = .ok (.iconst 1, 1) := by decide +kernel
theorem dL_law_1172 : decode cL_law 1172 = .ok (.iadd, 1) := by decide +kernel
theorem dL_law_1173 : decode cL_law 1173 = .ok (.iaload, 1) := by decide +kernel
theorem dL_law_1174 : decode cL_law 1174 = .ok (.invokevirtual 132, 3) := by decide +kernel
theorem dL_law_1177 : decode cL_law 1177 = .ok (.if_icmp .eq 87, 3) := by decide +kernel
theorem dL_law_1180 : decode cL_law 1180 = .ok (.iconst 0, 1) := by decide +kernel
theorem dL_law_1181 : decode cL_law 1181 = .ok (.ireturn, 1) := by decide +kernel
theorem dL_law_1182 : decode cL_law 1182 = .ok (.aload_n 1, 1) := by decide +kernel
theorem dL_law_1183 : decode cL_law 1183 = .ok (.aload_n 0, 1) := by decide +kernel
theorem dL_law_1184 : decode cL_law 1184 = .ok (.iload_n 3, 1) := by decide +kernel
theorem dL_law_1185 : decode cL_law 1185 = .ok (.iconst 1, 1) := by decide +kernel
theorem dL_law_1186 : decode cL_law 1186 = .ok (.iadd, 1) := by decide +kernel
theorem dL_law_1187 : decode cL_law 1187 = .ok (.iaload, 1) := by decide +kernel
theorem dL_law_1188 : decode cL_law 1188 = .ok (.aload_n 0, 1) := by decide +kernel
theorem dL_law_1189 : decode cL_law 1189 = .ok (.iload_n 3, 1) := by decide +kernel
theorem dL_law_1190 : decode cL_law 1190 = .ok (.iconst 2, 1) := by decide +kernel
theorem dL_law_1191 : decode cL_law 1191 = .ok (.iadd, 1) := by decide +kernel
theorem dL_law_1192 : decode cL_law 1192 = .ok (.iaload, 1) := by decide +kernel
theorem dL_law_1193 : decode cL_law 1193 = .ok (.invokevirtual 133, 3) := by decide +kernel
theorem dL_law_1196 : decode cL_law 1196 = .ok (.aload_n 2, 1) := by decide +kernel
theorem dL_law_1197 : decode cL_law 1197 = .ok (.aload_n 0, 1) := by decide +kernel
theorem dL_law_1198 : decode cL_law 1198 = .ok (.iload_n 3, 1) := by decide +kernel
theorem dL_law_1199 : decode cL_law 1199 = .ok (.iconst 1, 1) := by decide +kernel
theorem dL_law_1200 : decode cL_law 1200 = .ok (.iadd, 1) := by decide +kernel
theorem dL_law_1201 : decode cL_law 1201 = .ok (.iaload, 1) := by decide +kernel
theorem dL_law_1202 : decode cL_law 1202 = .ok (.aload_n 0, 1) := by decide +kernel
theorem dL_law_1203 : decode cL_law 1203 = .ok (.iload_n 3, 1) := by decide +kernel
theorem dL_law_1204 : decode cL_law 1204 = .ok (.iconst 2, 1) := by decide +kernel
theorem dL_law_1205 : decode cL_law 1205 = .ok (.iadd, 1) := by decide +kernel
theorem dL_law_1206 : decode cL_law 1206 = .ok (.iaload, 1) := by decide +kernel
theorem dL_law_1207 : decode cL_law 1207 = .ok (.invokevirtual 136, 3) := by decide +kernel
theorem dL_law_1210 : decode cL_law 1210 = .ok (.if_icmp .eq 54, 3) := by decide +kernel
theorem dL_law_1213 : decode cL_law 1213 = .ok (.iconst 0, 1) := by decide +kernel
theorem dL_law_1214 : decode cL_law 1214 = .ok (.ireturn, 1) := by decide +kernel
theorem dL_law_1215 : decode cL_law 1215 = .ok (.aload_n 1, 1) := by decide +kernel
theorem dL_law_1216 : decode cL_law 1216 = .ok (.invokevirtual 137, 3) := by decide +kernel
theorem dL_law_1219 : decode cL_law 1219 = .ok (.aload_n 2, 1) := by decide +kernel
theorem dL_law_1220 : decode cL_law 1220 = .ok (.invokevirtual 140, 3) := by decide +kernel
theorem dL_law_1223 : decode cL_law 1223 = .ok (.if_icmp .eq 41, 3) := by decide +kernel
theorem dL_law_1226 : decode cL_law 1226 = .ok (.iconst 0, 1) := by decide +kernel
theorem dL_law_1227 : decode cL_law 1227 = .ok (.ireturn, 1) := by decide +kernel
theorem dL_law_1228 : decode cL_law 1228 = .ok (.aload_n 1, 1) := by decide +kernel
theorem dL_law_1229 : decode cL_law 1229 = .ok (.invokevirtual 141, 3) := by decide +kernel
theorem dL_law_1232 : decode cL_law 1232 = .ok (.aload_n 2, 1) := by decide +kernel
theorem dL_law_1233 : decode cL_law 1233 = .ok (.invokevirtual 144, 3) := by decide +kernel
theorem dL_law_1236 : decode cL_law 1236 = .ok (.if_icmp .eq 28, 3) := by decide +kernel
theorem dL_law_1239 : decode cL_law 1239 = .ok (.iconst 0, 1) := by decide +kernel
theorem dL_law_1240 : decode cL_law 1240 = .ok (.ireturn, 1) := by decide +kernel
theorem dL_law_1241 : decode cL_law 1241 = .ok (.aload_n 1, 1) := by decide +kernel
theorem dL_law_1242 : decode cL_law 1242 = .ok (.aload_n 0, 1) := by decide +kernel
theorem dL_law_1243 : decode cL_law 1243 = .ok (.iload_n 3, 1) := by decide +kernel
theorem dL_law_1244 : decode cL_law 1244 = .ok (.iconst 1, 1) := by decide +kernel
theorem dL_law_1245 : decode cL_law 1245 = .ok (.iadd, 1) := by decide +kernel
theorem dL_law_1246 : decode cL_law 1246 = .ok (.iaload, 1) := by decide +kernel
theorem dL_law_1247 : decode cL_law 1247 = .ok (.invokevirtual 145, 3) := by decide +kernel
theorem dL_law_1250 : decode cL_law 1250 = .ok (.aload_n 2, 1) := by decide +kernel
theorem dL_law_1251 : decode cL_law 1251 = .ok (.aload_n 0, 1) := by decide +kernel
theorem dL_law_1252 : decode cL_law 1252 = .ok (.iload_n 3, 1) := by decide +kernel
theorem dL_law_1253 : decode cL_law 1253 = .ok (.iconst 1, 1) := by decide +kernel
theorem dL_law_1254 : decode cL_law 1254 = .ok (.iadd, 1) := by decide +kernel
theorem dL_law_1255 : decode cL_law 1255 = .ok (.iaload, 1) := by decide +kernel
theorem dL_law_1256 : decode cL_law 1256 = .ok (.invokevirtual 148, 3) := by decide +kernel
theorem dL_law_1259 : decode cL_law 1259 = .ok (.if_icmp .eq 5, 3) := by decide +kernel
theorem dL_law_1262 : decode cL_law 1262 = .ok (.iconst 0, 1) := by decide +kernel
theorem dL_law_1263 : decode cL_law 1263 = .ok (.ireturn, 1) := by decide +kernel
theorem dL_law_1264 : decode cL_law 1264 = .ok (.iinc 3 6, 3) := by decide +kernel
theorem dL_law_1267 : decode cL_law 1267 = .ok (.goto (-1249), 3) := by decide +kernel
theorem dL_law_1270 : decode cL_law 1270 = .ok (.iconst 1, 1) := by decide +kernel
theorem dL_law_1271 : decode cL_law 1271 = .ok (.ireturn, 1) := by decide +kernel
abbrev vwCl : List vw_C := [(RX0, TX0, 2), (RX1, TX1, 3), (RX2, TX2, 6), (RX3, TX3, 4), (RX4, TX4, 3), (RX5, TX5, 4), (RX6, TX6, 11), (RX7, TX7, 29)]
end
section
/-! worlds by shape: a shape is a list of cells; an object: its class's place and its fields (none: a number; some c: the cell c); an array of numbers; an array of references. All numbers of a world are one function: cell, place. -/
abbrev zxS : Type := (Nat × List (Option Nat)) ⊕ (Nat ⊕ (Nat × List Nat))
abbrev zxI : Type := Nat → Nat → Int32
def zxSl (ad : Nat → Nat) (f : Nat → Int32) (sl : List (Option Nat)) : List Value := sl.mapIdx (fun k o => match o with
  | none => Value.int (f k)
  | some d => Value.ref (ad d))
def zxE (ad : Nat → Nat) (cA : Nat → ClassId) (f : Nat → Int32) (sh : zxS) : va_E := match sh with
  | .inl o => .inr (o.1, zxSl ad f o.2)
  | .inr (.inl n) => .inl (cA 0, n, .inl f)
  | .inr (.inr a) => .inl (cA a.1, a.2.length, .inr (.inr (.inr (.inr (fun j => (a.2[j]?).map ad)))))
def zxW (S : List zxS) (ad : Nat → Nat) (cA : Nat → ClassId) (I : zxI) : va_W := S.mapIdx (fun q sh => (ad q, zxE ad cA (I q) sh))
def zxU (I : zxI) (q k : Nat) (v : Int32) : zxI := fun q' k' => if q' = q ∧ k' = k then v else I q' k'
def zxC (I : zxI) (q0 q1 sp dp n : Nat) : zxI := fun q' => if q' = q1 then va_cpy (I q0) (I q1) sp dp n else I q'
def zxIn (i : Int32) (n : Nat) : Bool := decide (¬ (i < 0 ∨ n ≤ i.toNatClampNeg))
theorem zx_in {i : Int32} {n : Nat} {α : Type} {a : Option α} {r : α} (h : (if zxIn i n = true then a else none) = some r) : vp_in i n ∧ a = some r := by
  by_cases c : zxIn i n = true
  · rw [if_pos c] at h
    have c2 : ¬ (i < 0 ∨ n ≤ i.toNatClampNeg) := of_decide_eq_true c
    exact ⟨c2, h⟩
  · rw [if_neg c] at h
    cases h
theorem zx_lt {i : Int32} {n : Nat} (h : vp_in i n) : i.toNatClampNeg < n := Nat.not_le.mp fun q => h (Or.inr q)
theorem zx_gd {c : Prop} [Decidable c] {α : Type} {a : Option α} {r : α} (h : (if c then a else none) = some r) : c ∧ a = some r := by
  by_cases d : c
  · rw [if_pos d] at h
    exact ⟨d, h⟩
  · rw [if_neg d] at h
    cases h
theorem zx_pos {c : Prop} [Decidable c] {α : Type} {a b : Option α} {r : Option α} (d : c) (h : (if c then a else b) = r) : a = r := by
  rw [if_pos d] at h
  exact h
theorem zx_neg {c : Prop} [Decidable c] {α : Type} {a b : Option α} {r : Option α} (d : ¬ c) (h : (if c then a else b) = r) : b = r := by
  rw [if_neg d] at h
  exact h
/-- a call, then the rest -/
def zxB {ρ β : Type} (a : Option (ρ × zxI)) (f : ρ → zxI → Option β) : Option β := match a with
  | none => none
  | some q => f q.1 q.2
def zxV {β : Type} (a : Option zxI) (f : zxI → Option β) : Option β := match a with
  | none => none
  | some q => f q
def zxL {β : Type} (e : Int32) (f : Int32 → Option β) : Option β := f e
theorem zx_l {β : Type} {e y : Int32} {f : Int32 → Option β} {r : Option β} (h : y = e) (hf : zxL e f = r) : f y = r := by
  subst h
  exact hf
theorem zx_b {ρ β : Type} {a : Option (ρ × zxI)} {f : ρ → zxI → Option β} {b : β} (h : zxB a f = some b) : ∃ (r : ρ) (J : zxI), a = some (r, J) ∧ f r J = some b := by
  cases a with
  | none => cases h
  | some q => exact ⟨q.1, q.2, rfl, h⟩
theorem zx_v {β : Type} {a : Option zxI} {f : zxI → Option β} {b : β} (h : zxV a f = some b) : ∃ (J : zxI), a = some J ∧ f J = some b := by
  cases a with
  | none => cases h
  | some q => exact ⟨q, rfl, h⟩
/-- the cells that a world may write, and those that are new -/
def zxA (S : List zxS) (ad : Nat → Nat) (sz : Nat) : Nat → Prop := fun a => (∃ q : Nat, q < S.length ∧ a = ad q) ∨ sz ≤ a
abbrev zxT (cA : Nat → ClassId) : List (ClassId × FieldType) := [(cA 0, .int), (cA 1, .object "GalleryBirds$Sheet"), (cA 2, .object "GalleryBirds$Air")]
abbrev zxNest : Cond := .methodLinkNest RX2 31 yX6_bearing RX6
def zxK (D : va_G) (cA : Nat → ClassId) (U : State) : Prop := va_K D vwCl (zxT cA) U ∧ va_Nw zxNest U
theorem zxK_warm {D : va_G} {cA : Nat → ClassId} {s U : State} (hW : s.WarmedH U.vm) (h : zxK D cA s) : zxK D cA U := ⟨va_K.moved hW.alike h.1, va_Nw.warmM hW h.2⟩
theorem zxK_call {D : va_G} {cA : Nat → ClassId} {U : State} {g : JFrame} {mk : MethodId} {a : Array Value} (h : zxK D cA U) : zxK D cA (U.calling g mk a) := ⟨va_K.moved (u := U) (U := U.calling g mk a) (Vm.Alike.refl U.vm) h.1, va_Nw.same rfl (u := U) (U := U.calling g mk a) rfl h.2⟩
def zxPre (D : va_G) (S : List zxS) (ad : Nat → Nat) (cA : Nat → ClassId) (I : zxI) (sz : Nat) : State → Prop := fun U => U.heap.size = sz ∧ va_P D vwCl (zxW S ad cA I) U.heap ∧ zxK D cA U ∧ va_D (fun _ => True) (zxW S ad cA I)
def zxPost (D : va_G) (S : List zxS) (ad : Nat → Nat) (cA : Nat → ClassId) (sz : Nat) : zxI → State → Prop := fun I t => va_P D vwCl (zxW S ad cA I) t.heap ∧ va_D (zxA S ad sz) (zxW S ad cA I)
def zxAt (D : va_G) (S : List zxS) (ad : Nat → Nat) (cA : Nat → ClassId) (I : zxI) (s : State) (sz : Nat) (H : Heap) (locs : List Loc) : Prop := s.heap.size = sz ∧ zxK D cA s ∧ va_P D vwCl (zxW S ad cA I) H ∧ va_D (zxA S ad sz) (zxW S ad cA I) ∧ va_S (zxA S ad sz) s.heap H locs
theorem zxA_mono {S : List zxS} {ad : Nat → Nat} {a b : Nat} (h : a ≤ b) : ∀ q : Nat, zxA S ad b q → zxA S ad a q := by
  intro q hq
  rcases hq with hq | hq
  · exact Or.inl hq
  · exact Or.inr (Nat.le_trans h hq)
theorem zxW_at {S : List zxS} {ad : Nat → Nat} {cA : Nat → ClassId} {I : zxI} {q : Nat} {sh : zxS} (h : S[q]? = some sh) : (zxW S ad cA I)[q]? = some (ad q, zxE ad cA (I q) sh) := by
  simp [zxW, List.getElem?_mapIdx, h]
theorem zxW_of {S : List zxS} {ad : Nat → Nat} {cA : Nat → ClassId} {I : zxI} {q : Nat} {x : Nat × va_E} (h : (zxW S ad cA I)[q]? = some x) : q < S.length ∧ x.1 = ad q := by
  simp only [zxW, List.getElem?_mapIdx] at h
  cases hq : S[q]? with
  | none => simp [hq] at h
  | some sh =>
    simp [hq] at h
    exact ⟨(List.getElem?_eq_some_iff.mp hq).1, by rw [← h]⟩
theorem zxSl_I {ad : Nat → Nat} {f : Nat → Int32} {sl : List (Option Nat)} {k : Nat} (h : sl[k]? = some none) : (zxSl ad f sl)[k]? = some (.int (f k)) := by
  simp [zxSl, List.getElem?_mapIdx, h]
theorem zxSl_R {ad : Nat → Nat} {f : Nat → Int32} {sl : List (Option Nat)} {k d : Nat} (h : sl[k]? = some (some d)) : (zxSl ad f sl)[k]? = some (.ref (ad d)) := by
  simp [zxSl, List.getElem?_mapIdx, h]
theorem zxSl_U {ad : Nat → Nat} {I : zxI} {q : Nat} {sl : List (Option Nat)} {k : Nat} {v : Int32} (h : sl[k]? = some none) : zxSl ad (zxU I q k v q) sl = (zxSl ad (I q) sl).set k (.int v) := by
  apply List.ext_getElem?
  intro i
  rw [List.getElem?_set]
  by_cases hi : k = i
  · subst hi
    have hl : k < sl.length := (List.getElem?_eq_some_iff.mp h).1
    rw [if_pos rfl, if_pos (by simp only [zxSl, List.length_mapIdx]; exact hl), zxSl_I h]
    simp [zxU]
  · rw [if_neg hi]
    simp only [zxSl, List.getElem?_mapIdx]
    have hz : zxU I q k v q i = I q i := by simp [zxU, Ne.symm hi]
    rw [hz]
theorem zxU_arr {I : zxI} {q k : Nat} {v : Int32} : zxU I q k v q = upd (I q) k v := by
  funext j
  simp [zxU, upd]
theorem zxU_ne {I : zxI} {q k q' : Nat} {v : Int32} (h : q' ≠ q) : zxU I q k v q' = I q' := by
  funext j
  simp [zxU, h]
theorem zxC_ne {I : zxI} {q0 q1 sp dp n q' : Nat} (h : q' ≠ q1) : zxC I q0 q1 sp dp n q' = I q' := by simp [zxC, h]
theorem zxW_set {S : List zxS} {ad : Nat → Nat} {cA : Nat → ClassId} {I J : zxI} {q : Nat} {sh : zxS} {e : va_E} (h : S[q]? = some sh) (hJ : ∀ q', q' ≠ q → J q' = I q') (he : zxE ad cA (J q) sh = e) : (zxW S ad cA I).set q (ad q, e) = zxW S ad cA J := by
  apply List.ext_getElem?
  intro i
  rw [List.getElem?_set]
  by_cases hi : q = i
  · subst hi
    have hl : q < S.length := (List.getElem?_eq_some_iff.mp h).1
    rw [if_pos rfl, if_pos (by simp only [zxW, List.length_mapIdx]; exact hl), zxW_at h, he]
  · rw [if_neg hi]
    simp only [zxW, List.getElem?_mapIdx]
    rw [hJ i (Ne.symm hi)]
section ZX
variable {p : Program} {l : Launch} {e : Env} {R : Room} {s : State} {m : MethodId} {args : Array Value} {below : List Frame} {meth : Method} {c : Code} {H : Heap} {locs : List Loc} {cells slots : Nat} {Q : State → Prop}
variable {cc : ByteArray} {pc : Nat} {ls : Array Slot} {rest : List Value} {D : va_G} {S : List zxS} {ad : Nat → Nat} {cA : Nat → ClassId} {I : zxI} {sz : Nat}
theorem zx_getI (hx : p.tables.exec = Jvm.exec) (hb : c.code = cc) {own C : String} {T : u_T} {N ci index : Nat} {Ts : List Cond} (hts : ∀ w ∈ Ts, w.before args s = true) (hin : ∀ w ∈ u_ws C T N, w ∈ Ts) (hown : s.vm.findClass own = some m.cls) (hG : zxAt D S ad cA I s sz H locs) {q : Nat} {sl : List (Option Nat)} (hS : S[q]? = some (.inl (ci, sl))) (hc : vwCl[ci]? = some (C, T, N)) (k : Nat) (hk : k < N) (hsl : sl[k]? = some none) (hlink : (Cond.fieldLink own index (T k).1 (T k).2.1 (T k).2.2.1).before args s = true) (hdg : decode cc pc = .ok (.getfield index, 3))
    (kk : W p l e R s m args below meth c H locs cells slots Q (F0 m (pc + 3) ls (.int (I q k) :: rest))) : W p l e R s m args below meth c H locs cells slots Q (F0 m pc ls (.ref (ad q) :: rest)) :=
  va_get hx hb hts hin hown hG.2.1.1 hG.2.2.1 q (zxW_at hS) hc k hk hlink (fun _ h => h) (zxSl_I hsl) hdg kk
theorem zx_getR (hx : p.tables.exec = Jvm.exec) (hb : c.code = cc) {own C : String} {T : u_T} {N ci index : Nat} {Ts : List Cond} (hts : ∀ w ∈ Ts, w.before args s = true) (hin : ∀ w ∈ u_ws C T N, w ∈ Ts) (hown : s.vm.findClass own = some m.cls) (hG : zxAt D S ad cA I s sz H locs) {q d : Nat} {sl : List (Option Nat)} (hS : S[q]? = some (.inl (ci, sl))) (hc : vwCl[ci]? = some (C, T, N)) (k : Nat) (hk : k < N) (hsl : sl[k]? = some (some d)) (hlink : (Cond.fieldLink own index (T k).1 (T k).2.1 (T k).2.2.1).before args s = true) (hdg : decode cc pc = .ok (.getfield index, 3))
    (kk : W p l e R s m args below meth c H locs cells slots Q (F0 m (pc + 3) ls (.ref (ad d) :: rest))) : W p l e R s m args below meth c H locs cells slots Q (F0 m pc ls (.ref (ad q) :: rest)) :=
  va_get hx hb hts hin hown hG.2.1.1 hG.2.2.1 q (zxW_at hS) hc k hk hlink (fun _ h => h) (zxSl_R hsl) hdg kk
theorem zx_putI (hx : p.tables.exec = Jvm.exec) (hb : c.code = cc) {own C : String} {T : u_T} {N ci index : Nat} {Ts : List Cond} (hts : ∀ w ∈ Ts, w.before args s = true) (hin : ∀ w ∈ u_ws C T N, w ∈ Ts) (ty0 : Nat → FieldType) (hty : ∀ k, k < N → parseFieldDescriptor (T k).2.2.1 = some (ty0 k)) (hnm : ∀ a, a < N → ∀ b, b < N → a ≠ b → (T a).2.1 ≠ (T b).2.1) (hown : s.vm.findClass own = some m.cls) (hG : zxAt D S ad cA I s sz H locs) {q : Nat} {sl : List (Option Nat)} (hS : S[q]? = some (.inl (ci, sl))) (hc : vwCl[ci]? = some (C, T, N)) (k : Nat) (hk : k < N) (hsl : sl[k]? = some none) (hlink : (Cond.fieldLink own index (T k).1 (T k).2.1 (T k).2.2.1).before args s = true) (hfin : (T k).2.2.2 = false) {ty : FieldType} {v : Int32} (hd : parseFieldDescriptor (T k).2.2.1 = some ty) (hn : narrow ty (.int v) = .int v) (hfit : fits ty (.int v) = true) (hdg : decode cc pc = .ok (.putfield index, 3))
    (kk : ∀ (H1 : Heap) (locs1 : List Loc), zxAt D S ad cA (zxU I q k v) s sz H1 locs1 → W p l e R s m args below meth c H1 locs1 cells slots Q (F0 m (pc + 3) ls rest)) : W p l e R s m args below meth c H locs cells slots Q (F0 m pc ls (.int v :: .ref (ad q) :: rest)) := by
  obtain ⟨g1, hK, hP, hD, hS0⟩ := hG
  have e1 : (zxW S ad cA I).set q (ad q, .inr (ci, (zxSl ad (I q) sl).set k (.int v))) = zxW S ad cA (zxU I q k v) :=
    zxW_set hS (fun q' h => zxU_ne h) (by show Sum.inr (ci, zxSl ad (zxU I q k v q) sl) = _; rw [zxSl_U hsl])
  refine va_put hx hb hts hin ty0 hty hnm hown hK.1 hP hD hS0 q (zxW_at hS) hc k hk hlink (fun _ h => h) hfin hd hn hfit (by show k < (zxSl ad (I q) sl).length; simp only [zxSl, List.length_mapIdx]; exact (List.getElem?_eq_some_iff.mp hsl).1) hdg (fun H1 locs1 hP1 hD1 hS1 => ?_)
  exact kk H1 locs1 ⟨g1, hK, by rw [← e1]; exact hP1, by rw [← e1]; exact hD1, hS1⟩
theorem zx_ald (hx : p.tables.exec = Jvm.exec) (hb : c.code = cc) (hG : zxAt D S ad cA I s sz H locs) {q n : Nat} (hS : S[q]? = some (.inr (.inl n))) {i : Int32} (hin : vp_in i n) (hdg : decode cc pc = .ok (.iaload, 1))
    (kk : W p l e R s m args below meth c H locs cells slots Q (F0 m (pc + 1) ls (.int (I q i.toNatClampNeg) :: rest))) : W p l e R s m args below meth c H locs cells slots Q (F0 m pc ls (.int i :: .ref (ad q) :: rest)) :=
  va_iald hx hb hG.2.1.1 hG.2.2.1 q 0 (zxW_at hS) rfl hin hdg kk
theorem zx_ast (hx : p.tables.exec = Jvm.exec) (hb : c.code = cc) (hG : zxAt D S ad cA I s sz H locs) {q n : Nat} (hS : S[q]? = some (.inr (.inl n))) {i x : Int32} (hin : vp_in i n) (hdg : decode cc pc = .ok (.iastore, 1))
    (kk : ∀ (H1 : Heap) (locs1 : List Loc), zxAt D S ad cA (zxU I q i.toNatClampNeg x) s sz H1 locs1 → W p l e R s m args below meth c H1 locs1 cells slots Q (F0 m (pc + 1) ls rest)) : W p l e R s m args below meth c H locs cells slots Q (F0 m pc ls (.int x :: .int i :: .ref (ad q) :: rest)) := by
  obtain ⟨g1, hK, hP, hD, hS0⟩ := hG
  have e1 : (zxW S ad cA I).set q (ad q, .inl (cA 0, n, .inl (upd (I q) i.toNatClampNeg x))) = zxW S ad cA (zxU I q i.toNatClampNeg x) :=
    zxW_set hS (fun q' h => zxU_ne h) (by show (Sum.inl (cA 0, n, Sum.inl (zxU I q i.toNatClampNeg x q)) : va_E) = _; rw [zxU_arr])
  refine va_iast hx hb hK.1 hP hD hS0 q 0 (zxW_at hS) rfl hin hdg (fun H1 locs1 hP1 hD1 hS1 => ?_)
  exact kk H1 locs1 ⟨g1, hK, by rw [← e1]; exact hP1, by rw [← e1]; exact hD1, hS1⟩
theorem zx_aldR (hx : p.tables.exec = Jvm.exec) (hb : c.code = cc) (hG : zxAt D S ad cA I s sz H locs) {q t d : Nat} {L : List Nat} {C : String} (hS : S[q]? = some (.inr (.inr (t, L)))) (ht : (zxT cA)[t]? = some (cA t, .object C)) {i : Int32} (hin : vp_in i L.length) (hd : L[i.toNatClampNeg]? = some d) (hdg : decode cc pc = .ok (.aaload, 1))
    (kk : W p l e R s m args below meth c H locs cells slots Q (F0 m (pc + 1) ls (.ref (ad d) :: rest))) : W p l e R s m args below meth c H locs cells slots Q (F0 m pc ls (.int i :: .ref (ad q) :: rest)) := by
  refine va_aldq hx hb hG.2.1.1 hG.2.2.1 q t (zxW_at hS) ht hin hdg ?_
  simp only [hd, Option.map_some]
  exact kk
theorem zx_copy (hx : p.tables.exec = Jvm.exec) (hb : c.code = cc) (hml : c.maxLocals = ls.size) {own : String} {index : Nat} (hown : s.vm.findClass own = some m.cls) (hlink : (Cond.methodLink own index arraycopyName).before args s = true) (hnat : (Cond.native arraycopyName).before args s = true) (hstat : (Cond.static arraycopyName).before args s = true) (hini : (Cond.initialized "java/lang/System").before args s = true)
    (hG : zxAt D S ad cA I s sz H locs) {q0 q1 n0 n1 : Nat} (hS0 : S[q0]? = some (.inr (.inl n0))) (hS1 : S[q1]? = some (.inr (.inl n1))) {sp dp n : Int32} (h1 : ¬ sp < 0) (h2 : ¬ dp < 0) (h3 : ¬ n < 0) (h4 : sp.toNatClampNeg + n.toNatClampNeg ≤ n0) (h5 : dp.toNatClampNeg + n.toNatClampNeg ≤ n1)
    (hframes : 1 ≤ R.frames) (hlocals : (rest.map fun v => v.category).sum + (nativeFrameWords "java/lang/System" "arraycopy" 5 + 11) ≤ R.locals) (hdg : decode cc pc = .ok (.invokestatic index, 3))
    (kk : ∀ (H1 : Heap) (locs1 : List Loc), zxAt D S ad cA (zxC I q0 q1 sp.toNatClampNeg dp.toNatClampNeg n.toNatClampNeg) s sz H1 locs1 → W p l e R s m args below meth c H1 locs1 cells slots Q (F0 m (pc + 3) ls rest)) : W p l e R s m args below meth c H locs cells slots Q (F0 m pc ls (.int n :: .int dp :: .ref (ad q1) :: .int sp :: .ref (ad q0) :: rest)) := by
  obtain ⟨g1, hK, hP, hD, hV⟩ := hG
  have e1 : (zxW S ad cA I).set q1 (ad q1, .inl (cA 0, n1, .inl (va_cpy (I q0) (I q1) sp.toNatClampNeg dp.toNatClampNeg n.toNatClampNeg))) = zxW S ad cA (zxC I q0 q1 sp.toNatClampNeg dp.toNatClampNeg n.toNatClampNeg) :=
    zxW_set hS1 (fun q' h => zxC_ne h) (by show (Sum.inl (cA 0, n1, Sum.inl (zxC I q0 q1 sp.toNatClampNeg dp.toNatClampNeg n.toNatClampNeg q1)) : va_E) = _; simp [zxC])
  refine va_copyi hx hb hml hown hlink hnat hstat hini hK.1 hP hD hV q0 q1 0 0 (zxW_at hS0) (zxW_at hS1) rfl rfl rfl h1 h2 h3 h4 h5 (fun i _ => rfl) hframes hlocals hdg (fun H1 locs1 hP1 hD1 hV1 => ?_)
  exact kk H1 locs1 ⟨g1, hK, by rw [← e1]; exact hP1, by rw [← e1]; exact hD1, hV1⟩
theorem zx_blind {av : List Value} {I : zxI} {sz : Nat} : FrameBlind (va_Pc av (zxPre D S ad cA I sz)) := by
  intro a U g mk h
  obtain ⟨h0, h1, h2, h3, h4⟩ := h
  exact ⟨h0, h1, h2, zxK_call h3, h4⟩
theorem zx_at (hG : zxAt D S ad cA I s sz H locs) {av : List Value} : ∀ U : State, U.heap = H → s.WarmedH U.vm → va_Pc av (zxPre D S ad cA I H.size) av.toArray U := by
  intro U hU hW
  exact ⟨rfl, by rw [hU], by rw [hU]; exact hG.2.2.1, zxK_warm hW hG.2.1, hG.2.2.2.1.weaken (fun _ _ _ _ => trivial)⟩
theorem zx_preV (hG : zxAt D S ad cA I s sz H locs) {q ci : Nat} {sl : List (Option Nat)} (hS : S[q]? = some (.inl (ci, sl))) {C : String} {T : u_T} {N : Nat} (hc : vwCl[ci]? = some (C, T, N)) {As : List Value} : PreV s H C (ad q) (va_Pc (.ref (ad q) :: As) (zxPre D S ad cA I H.size)) As :=
  ⟨zx_blind, va_recv hG.2.1.1 hG.2.2.1 hc (zxW_at hS), zx_at hG⟩
theorem zx_preS (hG : zxAt D S ad cA I s sz H locs) {As : List Value} : PreS s H (va_Pc As (zxPre D S ad cA I H.size)) As := ⟨zx_blind, zx_at hG⟩
theorem zx_after (hG : zxAt D S ad cA I s sz H locs) {t : State} {J : zxI} {H1 : Heap} {locs1 : List Loc} (ht : t.heap = H1) (hB : zxPost D S ad cA H.size J t) (hS1 : va_S (zxA S ad sz) s.heap H1 locs1) : zxAt D S ad cA J s sz H1 locs1 := by
  obtain ⟨hP1, hD1⟩ := hB
  have hz : sz ≤ H.size := by rw [← hG.1]; exact hG.2.2.2.2.1
  exact ⟨hG.1, hG.2.1, by rw [← ht]; exact hP1, hD1.weaken (fun _ x _ h => zxA_mono hz x.1 h), hS1⟩
theorem zx_calli {st0 : List Value} {a : Array Value} {r : Int32} {J : zxI} (hr : va_Run p l e R s m args below meth c H locs cells slots 0 0 (F0 m pc ls st0) rest (va_Qi (fun (r2 : Int32) (I2 : zxI) => r2 = r ∧ I2 = J) (zxPost D S ad cA H.size) (zxA S ad H.size) a) (zxA S ad H.size)) (hG : zxAt D S ad cA I s sz H locs)
    (kk : ∀ (H1 : Heap) (locs1 : List Loc), zxAt D S ad cA J s sz H1 locs1 → W p l e R s m args below meth c H1 locs1 cells slots Q (F0 m (pc + 3) ls (.int r :: rest))) : W p l e R s m args below meth c H locs cells slots Q (F0 m pc ls st0) := by
  have hz : sz ≤ H.size := by rw [← hG.1]; exact hG.2.2.2.2.1
  refine va_calli hr hG.2.2.2.2 (fun q _ h => zxA_mono hz q h) (zxA_mono hz) (fun r2 u t H1 locs1 ht hvm hw hB _ _ hS1 => ?_)
  obtain ⟨rfl, rfl⟩ := hw
  exact kk H1 locs1 (zx_after hG ht hB hS1)
theorem zx_calll {st0 : List Value} {a : Array Value} {r : Int64} {J : zxI} (hr : va_Run p l e R s m args below meth c H locs cells slots 0 0 (F0 m pc ls st0) rest (va_Ql (fun (r2 : Int64) (I2 : zxI) => r2 = r ∧ I2 = J) (zxPost D S ad cA H.size) (zxA S ad H.size) a) (zxA S ad H.size)) (hG : zxAt D S ad cA I s sz H locs)
    (kk : ∀ (H1 : Heap) (locs1 : List Loc), zxAt D S ad cA J s sz H1 locs1 → W p l e R s m args below meth c H1 locs1 cells slots Q (F0 m (pc + 3) ls (.long r :: rest))) : W p l e R s m args below meth c H locs cells slots Q (F0 m pc ls st0) := by
  have hz : sz ≤ H.size := by rw [← hG.1]; exact hG.2.2.2.2.1
  refine va_calll hr hG.2.2.2.2 (fun q _ h => zxA_mono hz q h) (zxA_mono hz) (fun r2 u t H1 locs1 ht hvm hw hB _ _ hS1 => ?_)
  obtain ⟨rfl, rfl⟩ := hw
  exact kk H1 locs1 (zx_after hG ht hB hS1)
theorem zx_callv {st0 : List Value} {a : Array Value} {J : zxI} (hr : va_Run p l e R s m args below meth c H locs cells slots 0 0 (F0 m pc ls st0) rest (va_Qv (fun (I2 : zxI) => I2 = J) (zxPost D S ad cA H.size) (zxA S ad H.size) a) (zxA S ad H.size)) (hG : zxAt D S ad cA I s sz H locs)
    (kk : ∀ (H1 : Heap) (locs1 : List Loc), zxAt D S ad cA J s sz H1 locs1 → W p l e R s m args below meth c H1 locs1 cells slots Q (F0 m (pc + 3) ls rest)) : W p l e R s m args below meth c H locs cells slots Q (F0 m pc ls st0) := by
  have hz : sz ≤ H.size := by rw [← hG.1]; exact hG.2.2.2.2.1
  refine va_callv hr hG.2.2.2.2 (fun q _ h => zxA_mono hz q h) (zxA_mono hz) (fun u t H1 locs1 ht hvm hw hB _ _ hS1 => ?_)
  subst hw
  exact kk H1 locs1 (zx_after hG ht hB hS1)
theorem zx_callr {st0 : List Value} {a : Array Value} {d : Nat} {J : zxI} (hr : va_Run p l e R s m args below meth c H locs cells slots 0 0 (F0 m pc ls st0) rest (va_Qr (fun (I2 : zxI) => I2 = J) (fun I2 a t => a = ad d ∧ zxPost D S ad cA H.size I2 t) (zxA S ad H.size) a) (zxA S ad H.size)) (hG : zxAt D S ad cA I s sz H locs)
    (kk : ∀ (H1 : Heap) (locs1 : List Loc), zxAt D S ad cA J s sz H1 locs1 → W p l e R s m args below meth c H1 locs1 cells slots Q (F0 m (pc + 3) ls (.ref (ad d) :: rest))) : W p l e R s m args below meth c H locs cells slots Q (F0 m pc ls st0) := by
  have hz : sz ≤ H.size := by rw [← hG.1]; exact hG.2.2.2.2.1
  refine va_callr hr hG.2.2.2.2 (fun q _ h => zxA_mono hz q h) (zxA_mono hz) (fun u a1 t H1 locs1 ht hvm hw hB _ _ hS1 => ?_)
  subst hw
  obtain ⟨rfl, hB⟩ := hB
  exact kk H1 locs1 (zx_after hG ht hB hS1)
theorem zx_iret {v r : Int32} {J : zxI} {ty : FieldType} (hx : p.tables.exec = Jvm.exec) (hb : c.code = cc) (hr : meth.sig.returnType = some ty) (hlocks : meth.locks = false) (hn : narrow ty (.int v) = .int v) (hG : zxAt D S ad cA I s sz H locs) (hf : some (v, I) = some (r, J)) (hdg : decode cc pc = .ok (.ireturn, 1)) : W p l e R s m args below meth c H locs cells slots (MQ below (va_Qi (fun (r2 : Int32) (I2 : zxI) => r2 = r ∧ I2 = J) (zxPost D S ad cA sz) (zxA S ad sz)) args s cells slots (zxA S ad sz)) (F0 m pc ls [.int v]) := by
  cases hf
  exact W.zret (v := v) hx hb hr hn (fun t ht hW => ⟨⟨v, I, rfl, ⟨rfl, rfl⟩, by rw [ht]; exact hG.2.2.1, hG.2.2.2.1⟩, hG.2.2.2.2.F ht⟩) hG.2.2.2.2.2.2 hdg hlocks
theorem zx_lret {v r : Int64} {J : zxI} (hx : p.tables.exec = Jvm.exec) (hb : c.code = cc) (hr : meth.sig.returnType = some .long) (hlocks : meth.locks = false) (hG : zxAt D S ad cA I s sz H locs) (hf : some (v, I) = some (r, J)) (hdg : decode cc pc = .ok (.lreturn, 1)) : W p l e R s m args below meth c H locs cells slots (MQ below (va_Ql (fun (r2 : Int64) (I2 : zxI) => r2 = r ∧ I2 = J) (zxPost D S ad cA sz) (zxA S ad sz)) args s cells slots (zxA S ad sz)) (F0 m pc ls [.long v]) := by
  cases hf
  exact W.lret (v := v) hx hb hr (fun t ht hW => ⟨⟨v, I, rfl, ⟨rfl, rfl⟩, by rw [ht]; exact hG.2.2.1, hG.2.2.2.1⟩, hG.2.2.2.2.F ht⟩) hG.2.2.2.2.2.2 hdg hlocks
theorem zx_vret {J : zxI} (hx : p.tables.exec = Jvm.exec) (hb : c.code = cc) (hr : meth.sig.returnType = none) (hlocks : meth.locks = false) (hG : zxAt D S ad cA I s sz H locs) (hf : some I = some J) (hdg : decode cc pc = .ok (.return_, 1)) : W p l e R s m args below meth c H locs cells slots (MQ below (va_Qv (fun (I2 : zxI) => I2 = J) (zxPost D S ad cA sz) (zxA S ad sz)) args s cells slots (zxA S ad sz)) (F0 m pc ls []) := by
  cases hf
  exact W.vret hx hb hr (fun t ht hW => ⟨⟨I, rfl, rfl, by rw [ht]; exact hG.2.2.1, hG.2.2.2.1⟩, hG.2.2.2.2.F ht⟩) hG.2.2.2.2.2.2 hdg hlocks
theorem zx_aret {d : Nat} {J : zxI} {rt : FieldType} (hx : p.tables.exec = Jvm.exec) (hb : c.code = cc) (hr : meth.sig.returnType = some rt) (hrt : (∃ n, rt = .object n) ∨ ∃ t, rt = .array t) (hlocks : meth.locks = false) (hG : zxAt D S ad cA I s sz H locs) (hf : some I = some J) (hdg : decode cc pc = .ok (.areturn, 1)) : W p l e R s m args below meth c H locs cells slots (MQ below (va_Qr (fun (I2 : zxI) => I2 = J) (fun I2 a t => a = ad d ∧ zxPost D S ad cA sz I2 t) (zxA S ad sz)) args s cells slots (zxA S ad sz)) (F0 m pc ls [.ref (ad d)]) := by
  cases hf
  exact W.aret (v := .ref (ad d)) hx hb hr hrt (Or.inr ⟨_, rfl⟩) (fun t ht hW => ⟨⟨I, ad d, rfl, rfl, rfl, by rw [ht]; exact hG.2.2.1, hG.2.2.2.1⟩, hG.2.2.2.2.F ht⟩) hG.2.2.2.2.2.2 hdg hlocks
end ZX
/-- a contract out of a walk of the body -/
theorem zx_start {l : Launch} {D : va_G} {S : List zxS} {ad : Nat → Nat} {cA : Nat → ClassId} {I : zxI} {sz : Nat} {y : MethodName} {ws ws' : List Cond} {rm : Room} {avs : List Value} {Qc : Array Value → State → Outcome → State → Prop} {cc : ByteArray} {maxL : Nat} {ret : Option FieldType} (hy : plainName y.cls = true) (hw : ws = Cond.code y cc maxL ret :: ws') (hlen : (lg_sl avs).length ≤ maxL)
    (body : ∀ (p : Program) (e : Env) (s : State) (m : MethodId) (args : Array Value) (below : List Frame) (meth : Method) (c : Code) (ls : Array Slot), p.tables.exec = Jvm.exec → c.code = cc → meth.sig.returnType = ret → (∀ w ∈ ws, w.before args s = true) → s.vm.findClass y.cls = some m.cls → meth.locks = false → c.maxLocals = maxL → zxAt D S ad cA I s sz s.heap [] → lv_has ls maxL (lv_args 0 avs) → W p l e (headSpec ws rm).room s m args below meth c s.heap [] 0 0 (MQ below Qc args s 0 0 (zxA S ad sz)) (F0 m 0 ls [])) : Met l y ws rm (va_Pc avs (zxPre D S ad cA I sz)) Qc 0 0 (zxA S ad sz) := by
  refine Met.ofW (cc := cc) (maxL := maxL) (ret := ret) hy hw ?_
  intro p e s m args below meth c s₁ B hml hv
  obtain ⟨rfl, hsz, hP, hK, hD⟩ := hv
  have hts : ∀ w ∈ ws, w.before avs.toArray s = true := atoms_spec (ws := ws) B.pre
  have hl := lv_entry avs (n := maxL) hlen
  rw [lg_entry_eq]
  have hD1 : va_D (zxA S ad sz) (zxW S ad cA I) := hD.weaken (fun k x hx _ => by
    obtain ⟨h1, h2⟩ := zxW_of hx
    exact Or.inl ⟨k, h1, h2⟩)
  exact body p e s m avs.toArray below meth c _ B.exec B.bytes B.returns hts (findClass_of_methodNamed B.named) B.notSynchronized hml ⟨hsz, hK, hP, hD1, va_S.rf⟩ hl
theorem zx_nz {v : Int32} (h : v = 0 ∨ v = 1) : narrow .boolean (.int v) = .int v := by
  rcases h with rfl | rfl <;> rfl
theorem zx_tabOut {x : Int32} (n : Nat) (hn : n < 2 ^ 31) (h : ∀ k : Nat, k ≤ n → ¬ x = nI k) : x.toInt < 0 ∨ (n : Int) < x.toInt := by
  rcases Int.lt_or_le x.toInt 0 with q | q
  · exact Or.inl q
  · refine Or.inr (Int.not_le.mp fun z => ?_)
    refine h x.toInt.toNat (by omega) (Int32.toInt_inj.mp ?_)
    rw [nI_toInt (by omega)]
    omega
theorem zx_neI {x : Int32} {k : Nat} (hk : k < 2 ^ 31) (h : ¬ x = nI k) : ¬ (k : Int) = x.toInt := by
  intro z
  exact h (Int32.toInt_inj.mp (by rw [nI_toInt hk]; exact z.symm))
theorem zx_lk0 {d k : Int} : Op.lookupswitch.offset [] d k = d := rfl
theorem zx_lk1 {a o d k : Int} {r : List (Int × Int)} {z : Int} (h : ¬ a = k) (hr : Op.lookupswitch.offset r d k = z) : Op.lookupswitch.offset ((a, o) :: r) d k = z := by
  show (if a = k then o else Op.lookupswitch.offset r d k) = z
  rw [if_neg h]
  exact hr
/-! the cells of the system: 0 the object; 1 its sheets; 2..9 sheets and their rows; 10..13 pit, bads, kinds, strengths; 14..29 airs and their fouls; 30 trials; 31..34 readings; 35..37 pairs; 38 orderRow; 39..41 seating -/
def zaO (j : Nat) : Nat := 14 + 2 * j
def zaF (j : Nat) : Nat := 15 + 2 * j
def zsO (k : Nat) : Nat := 2 + 2 * k
def zsC (k : Nat) : Nat := 3 + 2 * k
def shX : List zxS := [.inl (6, [some 1, some 10, some 14, some 31, some 35, some 30, some 38, some 39, none, none, none]), .inr (.inr (1, [2, 4, 6, 8])),
  .inl (5, [none, none, some 3, none]), .inr (.inl 60), .inl (5, [none, none, some 5, none]), .inr (.inl 60), .inl (5, [none, none, some 7, none]), .inr (.inl 60), .inl (5, [none, none, some 9, none]), .inr (.inl 60),
  .inl (2, [none, none, some 11, some 12, some 13, none]), .inr (.inl 4), .inr (.inl 6), .inr (.inl 6),
  .inl (0, [some 15, none]), .inr (.inl 6), .inl (0, [some 17, none]), .inr (.inl 6), .inl (0, [some 19, none]), .inr (.inl 6), .inl (0, [some 21, none]), .inr (.inl 6), .inl (0, [some 23, none]), .inr (.inl 6), .inl (0, [some 25, none]), .inr (.inl 6), .inl (0, [some 27, none]), .inr (.inl 6), .inl (0, [some 29, none]), .inr (.inl 6),
  .inr (.inr (2, [16, 18, 20, 22, 24, 26, 28])), .inl (3, [none, some 32, some 33, some 34]), .inr (.inl 8), .inr (.inl 8), .inr (.inl 8), .inl (1, [none, some 36, some 37]), .inr (.inl 20), .inr (.inl 20), .inr (.inl 6), .inl (4, [some 40, some 41, none]), .inr (.inl 6), .inr (.inl 6)]
theorem shX_0 : shX[0]? = some (.inl (6, [some 1, some 10, some 14, some 31, some 35, some 30, some 38, some 39, none, none, none])) := rfl
theorem shX_1 : shX[1]? = some (.inr (.inr (1, [2, 4, 6, 8]))) := rfl
theorem shX_10 : shX[10]? = some (.inl (2, [none, none, some 11, some 12, some 13, none])) := rfl
theorem shX_11 : shX[11]? = some (.inr (.inl 4)) := rfl
theorem shX_12 : shX[12]? = some (.inr (.inl 6)) := rfl
theorem shX_13 : shX[13]? = some (.inr (.inl 6)) := rfl
theorem shX_30 : shX[30]? = some (.inr (.inr (2, [16, 18, 20, 22, 24, 26, 28]))) := rfl
theorem shX_31 : shX[31]? = some (.inl (3, [none, some 32, some 33, some 34])) := rfl
theorem shX_32 : shX[32]? = some (.inr (.inl 8)) := rfl
theorem shX_33 : shX[33]? = some (.inr (.inl 8)) := rfl
theorem shX_34 : shX[34]? = some (.inr (.inl 8)) := rfl
theorem shX_35 : shX[35]? = some (.inl (1, [none, some 36, some 37])) := rfl
theorem shX_36 : shX[36]? = some (.inr (.inl 20)) := rfl
theorem shX_37 : shX[37]? = some (.inr (.inl 20)) := rfl
theorem shX_38 : shX[38]? = some (.inr (.inl 6)) := rfl
theorem shX_39 : shX[39]? = some (.inl (4, [some 40, some 41, none])) := rfl
theorem shX_40 : shX[40]? = some (.inr (.inl 6)) := rfl
theorem shX_41 : shX[41]? = some (.inr (.inl 6)) := rfl
theorem shX_aO {j : Nat} (h : j < 8) : shX[zaO j]? = some (.inl (0, [some (zaF j), none])) := by
  match j, h with
  | 0, _ => rfl
  | 1, _ => rfl
  | 2, _ => rfl
  | 3, _ => rfl
  | 4, _ => rfl
  | 5, _ => rfl
  | 6, _ => rfl
  | 7, _ => rfl
theorem shX_aF {j : Nat} (h : j < 8) : shX[zaF j]? = some (.inr (.inl 6)) := by
  match j, h with
  | 0, _ => rfl
  | 1, _ => rfl
  | 2, _ => rfl
  | 3, _ => rfl
  | 4, _ => rfl
  | 5, _ => rfl
  | 6, _ => rfl
  | 7, _ => rfl
theorem shX_sO {k : Nat} (h : k < 4) : shX[zsO k]? = some (.inl (5, [none, none, some (zsC k), none])) := by
  match k, h with
  | 0, _ => rfl
  | 1, _ => rfl
  | 2, _ => rfl
  | 3, _ => rfl
theorem shX_sC {k : Nat} (h : k < 4) : shX[zsC k]? = some (.inr (.inl 60)) := by
  match k, h with
  | 0, _ => rfl
  | 1, _ => rfl
  | 2, _ => rfl
  | 3, _ => rfl
theorem shX_rs {k : Nat} (h : k < 4) : ([2, 4, 6, 8] : List Nat)[k]? = some (zsO k) := by
  match k, h with
  | 0, _ => rfl
  | 1, _ => rfl
  | 2, _ => rfl
  | 3, _ => rfl
theorem shX_ra {k : Nat} (h : k < 7) : ([16, 18, 20, 22, 24, 26, 28] : List Nat)[k]? = some (zaO (k + 1)) := by
  match k, h with
  | 0, _ => rfl
  | 1, _ => rfl
  | 2, _ => rfl
  | 3, _ => rfl
  | 4, _ => rfl
  | 5, _ => rfl
  | 6, _ => rfl
/-! the reference's cells: 0 the object; 1 sorts, 2 sheetLong, 3 cells, 4 badOf, 5 kind, 6 foulNow, 7 strength, 8 readBad, 9 read, 10 keptFoul, 11 row, 12 perched, 13 readWhere, 14 readFoul, 15 readDropped -/
def shM : List zxS := [.inl (7, [none, none, some 1, some 2, some 3, none, none, none, none, none, some 4, some 5, some 6, some 7, none, none, none, some 8, some 9, some 10, none, none, none, some 11, some 12, none, some 13, some 14, some 15]), .inr (.inl 4), .inr (.inl 4), .inr (.inl 240), .inr (.inl 4), .inr (.inl 6), .inr (.inl 6), .inr (.inl 6), .inr (.inl 4), .inr (.inl 24), .inr (.inl 6), .inr (.inl 6), .inr (.inl 6), .inr (.inl 8), .inr (.inl 8), .inr (.inl 8)]
theorem shM_0 : shM[0]? = some (.inl (7, [none, none, some 1, some 2, some 3, none, none, none, none, none, some 4, some 5, some 6, some 7, none, none, none, some 8, some 9, some 10, none, none, none, some 11, some 12, none, some 13, some 14, some 15])) := rfl
theorem shM_1 : shM[1]? = some (.inr (.inl 4)) := rfl
theorem shM_2 : shM[2]? = some (.inr (.inl 4)) := rfl
theorem shM_3 : shM[3]? = some (.inr (.inl 240)) := rfl
theorem shM_4 : shM[4]? = some (.inr (.inl 4)) := rfl
theorem shM_5 : shM[5]? = some (.inr (.inl 6)) := rfl
theorem shM_6 : shM[6]? = some (.inr (.inl 6)) := rfl
theorem shM_7 : shM[7]? = some (.inr (.inl 6)) := rfl
theorem shM_8 : shM[8]? = some (.inr (.inl 4)) := rfl
theorem shM_9 : shM[9]? = some (.inr (.inl 24)) := rfl
theorem shM_10 : shM[10]? = some (.inr (.inl 6)) := rfl
theorem shM_11 : shM[11]? = some (.inr (.inl 6)) := rfl
theorem shM_12 : shM[12]? = some (.inr (.inl 6)) := rfl
theorem shM_13 : shM[13]? = some (.inr (.inl 8)) := rfl
theorem shM_14 : shM[14]? = some (.inr (.inl 8)) := rfl
theorem shM_15 : shM[15]? = some (.inr (.inl 8)) := rfl
theorem vc_0 : vwCl[0]? = some (RX0, TX0, 2) := rfl
theorem vc_1 : vwCl[1]? = some (RX1, TX1, 3) := rfl
theorem vc_2 : vwCl[2]? = some (RX2, TX2, 6) := rfl
theorem vc_3 : vwCl[3]? = some (RX3, TX3, 4) := rfl
theorem vc_4 : vwCl[4]? = some (RX4, TX4, 3) := rfl
theorem vc_5 : vwCl[5]? = some (RX5, TX5, 4) := rfl
theorem vc_6 : vwCl[6]? = some (RX6, TX6, 11) := rfl
theorem vc_7 : vwCl[7]? = some (RX7, TX7, 29) := rfl
end
