section
def lw_okq (q : MethodName × Nat) : Prop := (q.1.cls ≠ "java/lang/invoke/MethodHandle" ∧ q.1.cls ≠ "java/lang/invoke/VarHandle") ∧ Cond.instantiable q.1.cls q.2 ∈ tables_1 ∧ Cond.privateMethod q.1 ∈ tables_1 ∧ Cond.instanceMethod q.1 ∈ tables_1
theorem lw_p0 : lw_okq (⟨"BoundedTypes$Reader", "start", "(I)V"⟩, 10) := ⟨⟨by decide +kernel, by decide +kernel⟩, List.mem_of_getElem? (i := 226) (by decide +kernel), List.mem_of_getElem? (i := 417) (by decide +kernel), List.mem_of_getElem? (i := 418) (by decide +kernel)⟩
theorem lw_p1 : lw_okq (⟨"BoundedTypes$Reader", "takeLetter", "(CC)I"⟩, 10) := ⟨⟨by decide +kernel, by decide +kernel⟩, List.mem_of_getElem? (i := 226) (by decide +kernel), List.mem_of_getElem? (i := 442) (by decide +kernel), List.mem_of_getElem? (i := 443) (by decide +kernel)⟩
theorem lw_p2 : lw_okq (⟨"BoundedTypes$Reader", "readBounds", "(LBoundedTypes$Bounds;)V"⟩, 10) := ⟨⟨by decide +kernel, by decide +kernel⟩, List.mem_of_getElem? (i := 226) (by decide +kernel), List.mem_of_getElem? (i := 448) (by decide +kernel), List.mem_of_getElem? (i := 449) (by decide +kernel)⟩
theorem lw_p3 : lw_okq (⟨"BoundedTypes$Reader", "open", "(C)V"⟩, 10) := ⟨⟨by decide +kernel, by decide +kernel⟩, List.mem_of_getElem? (i := 226) (by decide +kernel), List.mem_of_getElem? (i := 452) (by decide +kernel), List.mem_of_getElem? (i := 453) (by decide +kernel)⟩
theorem lw_p4 : lw_okq (⟨"BoundedTypes$Reader", "take", "(C)V"⟩, 10) := ⟨⟨by decide +kernel, by decide +kernel⟩, List.mem_of_getElem? (i := 226) (by decide +kernel), List.mem_of_getElem? (i := 456) (by decide +kernel), List.mem_of_getElem? (i := 457) (by decide +kernel)⟩
theorem lw_p5 : lw_okq (⟨"BoundedTypes$Reader", "readType", "(Z)I"⟩, 10) := ⟨⟨by decide +kernel, by decide +kernel⟩, List.mem_of_getElem? (i := 226) (by decide +kernel), List.mem_of_getElem? (i := 460) (by decide +kernel), List.mem_of_getElem? (i := 461) (by decide +kernel)⟩
theorem lw_p6 : lw_okq (⟨"BoundedTypes$Reader", "readListed", "(I)I"⟩, 10) := ⟨⟨by decide +kernel, by decide +kernel⟩, List.mem_of_getElem? (i := 226) (by decide +kernel), List.mem_of_getElem? (i := 464) (by decide +kernel), List.mem_of_getElem? (i := 465) (by decide +kernel)⟩
theorem lw_p7 : lw_okq (⟨"BoundedTypes$Reader", "close", "(C)V"⟩, 10) := ⟨⟨by decide +kernel, by decide +kernel⟩, List.mem_of_getElem? (i := 226) (by decide +kernel), List.mem_of_getElem? (i := 468) (by decide +kernel), List.mem_of_getElem? (i := 469) (by decide +kernel)⟩
theorem lw_p8 : lw_okq (⟨"BoundedTypes$Reader", "takeComma", "(Z)Z"⟩, 10) := ⟨⟨by decide +kernel, by decide +kernel⟩, List.mem_of_getElem? (i := 226) (by decide +kernel), List.mem_of_getElem? (i := 480) (by decide +kernel), List.mem_of_getElem? (i := 481) (by decide +kernel)⟩
theorem lw_p9 : lw_okq (⟨"BoundedTypes$Reader", "readMember", "()LBoundedTypes$Member;"⟩, 10) := ⟨⟨by decide +kernel, by decide +kernel⟩, List.mem_of_getElem? (i := 226) (by decide +kernel), List.mem_of_getElem? (i := 490) (by decide +kernel), List.mem_of_getElem? (i := 491) (by decide +kernel)⟩
theorem lw_p10 : lw_okq (⟨"BoundedTypes$Reader", "readParameters", "(LBoundedTypes$Member;)V"⟩, 10) := ⟨⟨by decide +kernel, by decide +kernel⟩, List.mem_of_getElem? (i := 226) (by decide +kernel), List.mem_of_getElem? (i := 546) (by decide +kernel), List.mem_of_getElem? (i := 547) (by decide +kernel)⟩
theorem lw_p11 : lw_okq (⟨"BoundedTypes$Reader", "expression", "()V"⟩, 10) := ⟨⟨by decide +kernel, by decide +kernel⟩, List.mem_of_getElem? (i := 226) (by decide +kernel), List.mem_of_getElem? (i := 554) (by decide +kernel), List.mem_of_getElem? (i := 555) (by decide +kernel)⟩
theorem lw_p12 : lw_okq (⟨"BoundedTypes$Reader", "isAtCast", "()Z"⟩, 10) := ⟨⟨by decide +kernel, by decide +kernel⟩, List.mem_of_getElem? (i := 226) (by decide +kernel), List.mem_of_getElem? (i := 558) (by decide +kernel), List.mem_of_getElem? (i := 559) (by decide +kernel)⟩
theorem lw_p13 : lw_okq (⟨"BoundedTypes$Reader", "base", "()V"⟩, 10) := ⟨⟨by decide +kernel, by decide +kernel⟩, List.mem_of_getElem? (i := 226) (by decide +kernel), List.mem_of_getElem? (i := 562) (by decide +kernel), List.mem_of_getElem? (i := 563) (by decide +kernel)⟩
theorem lw_p14 : lw_okq (⟨"BoundedTypes$Reader", "arguments", "()I"⟩, 10) := ⟨⟨by decide +kernel, by decide +kernel⟩, List.mem_of_getElem? (i := 226) (by decide +kernel), List.mem_of_getElem? (i := 570) (by decide +kernel), List.mem_of_getElem? (i := 571) (by decide +kernel)⟩
theorem lw_p15 : lw_okq (⟨"BoundedTypes$Reader", "slotOf", "(I)I"⟩, 10) := ⟨⟨by decide +kernel, by decide +kernel⟩, List.mem_of_getElem? (i := 226) (by decide +kernel), List.mem_of_getElem? (i := 578) (by decide +kernel), List.mem_of_getElem? (i := 579) (by decide +kernel)⟩
def lw_privs_1 : List (MethodName × Nat) := [(⟨"BoundedTypes$Reader", "start", "(I)V"⟩, 10), (⟨"BoundedTypes$Reader", "takeLetter", "(CC)I"⟩, 10), (⟨"BoundedTypes$Reader", "readBounds", "(LBoundedTypes$Bounds;)V"⟩, 10), (⟨"BoundedTypes$Reader", "open", "(C)V"⟩, 10), (⟨"BoundedTypes$Reader", "take", "(C)V"⟩, 10), (⟨"BoundedTypes$Reader", "readType", "(Z)I"⟩, 10), (⟨"BoundedTypes$Reader", "readListed", "(I)I"⟩, 10), (⟨"BoundedTypes$Reader", "close", "(C)V"⟩, 10), (⟨"BoundedTypes$Reader", "takeComma", "(Z)Z"⟩, 10), (⟨"BoundedTypes$Reader", "readMember", "()LBoundedTypes$Member;"⟩, 10), (⟨"BoundedTypes$Reader", "readParameters", "(LBoundedTypes$Member;)V"⟩, 10), (⟨"BoundedTypes$Reader", "expression", "()V"⟩, 10), (⟨"BoundedTypes$Reader", "isAtCast", "()Z"⟩, 10), (⟨"BoundedTypes$Reader", "base", "()V"⟩, 10), (⟨"BoundedTypes$Reader", "arguments", "()I"⟩, 10), (⟨"BoundedTypes$Reader", "slotOf", "(I)I"⟩, 10)]
theorem lw_r1 : ∀ q ∈ lw_privs_1, lw_okq q := List.forall_mem_cons.mpr ⟨lw_p0, List.forall_mem_cons.mpr ⟨lw_p1, List.forall_mem_cons.mpr ⟨lw_p2, List.forall_mem_cons.mpr ⟨lw_p3, List.forall_mem_cons.mpr ⟨lw_p4, List.forall_mem_cons.mpr ⟨lw_p5, List.forall_mem_cons.mpr ⟨lw_p6, List.forall_mem_cons.mpr ⟨lw_p7, List.forall_mem_cons.mpr ⟨lw_p8, List.forall_mem_cons.mpr ⟨lw_p9, List.forall_mem_cons.mpr ⟨lw_p10, List.forall_mem_cons.mpr ⟨lw_p11, List.forall_mem_cons.mpr ⟨lw_p12, List.forall_mem_cons.mpr ⟨lw_p13, List.forall_mem_cons.mpr ⟨lw_p14, List.forall_mem_cons.mpr ⟨lw_p15, fun _ h => absurd h List.not_mem_nil⟩⟩⟩⟩⟩⟩⟩⟩⟩⟩⟩⟩⟩⟩⟩⟩
theorem lw_p16 : lw_okq (⟨"BoundedTypes$Reader", "selection", "()V"⟩, 10) := ⟨⟨by decide +kernel, by decide +kernel⟩, List.mem_of_getElem? (i := 226) (by decide +kernel), List.mem_of_getElem? (i := 586) (by decide +kernel), List.mem_of_getElem? (i := 587) (by decide +kernel)⟩
theorem lw_p17 : lw_okq (⟨"java/util/ArrayList", "add", "(Ljava/lang/Object;[Ljava/lang/Object;I)V"⟩, 3) := ⟨⟨by decide +kernel, by decide +kernel⟩, List.mem_of_getElem? (i := 136) (by decide +kernel), List.mem_of_getElem? (i := 594) (by decide +kernel), List.mem_of_getElem? (i := 595) (by decide +kernel)⟩
theorem lw_p18 : lw_okq (⟨"java/util/ArrayList", "grow", "()[Ljava/lang/Object;"⟩, 3) := ⟨⟨by decide +kernel, by decide +kernel⟩, List.mem_of_getElem? (i := 136) (by decide +kernel), List.mem_of_getElem? (i := 598) (by decide +kernel), List.mem_of_getElem? (i := 599) (by decide +kernel)⟩
theorem lw_p19 : lw_okq (⟨"java/util/ArrayList", "grow", "(I)[Ljava/lang/Object;"⟩, 3) := ⟨⟨by decide +kernel, by decide +kernel⟩, List.mem_of_getElem? (i := 136) (by decide +kernel), List.mem_of_getElem? (i := 602) (by decide +kernel), List.mem_of_getElem? (i := 603) (by decide +kernel)⟩
theorem lw_p20 : lw_okq (⟨"BoundedTypes$Reader", "takeEnd", "()V"⟩, 10) := ⟨⟨by decide +kernel, by decide +kernel⟩, List.mem_of_getElem? (i := 226) (by decide +kernel), List.mem_of_getElem? (i := 644) (by decide +kernel), List.mem_of_getElem? (i := 645) (by decide +kernel)⟩
theorem lw_p21 : lw_okq (⟨"BoundedTypes$Bounds", "indexOf", "(I)I"⟩, 3) := ⟨⟨by decide +kernel, by decide +kernel⟩, List.mem_of_getElem? (i := 109) (by decide +kernel), List.mem_of_getElem? (i := 664) (by decide +kernel), List.mem_of_getElem? (i := 665) (by decide +kernel)⟩
theorem lw_p22 : lw_okq (⟨"BoundedTypes$Declarations", "enter", "(LBoundedTypes$Entry;LBoundedTypes$Member;)V"⟩, 3) := ⟨⟨by decide +kernel, by decide +kernel⟩, List.mem_of_getElem? (i := 294) (by decide +kernel), List.mem_of_getElem? (i := 679) (by decide +kernel), List.mem_of_getElem? (i := 680) (by decide +kernel)⟩
theorem lw_p23 : lw_okq (⟨"BoundedTypes$Declarations", "areGood", "([II)Z"⟩, 3) := ⟨⟨by decide +kernel, by decide +kernel⟩, List.mem_of_getElem? (i := 294) (by decide +kernel), List.mem_of_getElem? (i := 691) (by decide +kernel), List.mem_of_getElem? (i := 692) (by decide +kernel)⟩
theorem lw_p24 : lw_okq (⟨"BoundedTypes$Rules", "good", "(II)Z"⟩, 4) := ⟨⟨by decide +kernel, by decide +kernel⟩, List.mem_of_getElem? (i := 100) (by decide +kernel), List.mem_of_getElem? (i := 695) (by decide +kernel), List.mem_of_getElem? (i := 696) (by decide +kernel)⟩
theorem lw_p25 : lw_okq (⟨"BoundedTypes$Rules", "standFor", "(LBoundedTypes$Entry;I)V"⟩, 4) := ⟨⟨by decide +kernel, by decide +kernel⟩, List.mem_of_getElem? (i := 100) (by decide +kernel), List.mem_of_getElem? (i := 719) (by decide +kernel), List.mem_of_getElem? (i := 720) (by decide +kernel)⟩
theorem lw_p26 : lw_okq (⟨"BoundedTypes$Rules", "filled", "(II)I"⟩, 4) := ⟨⟨by decide +kernel, by decide +kernel⟩, List.mem_of_getElem? (i := 100) (by decide +kernel), List.mem_of_getElem? (i := 723) (by decide +kernel), List.mem_of_getElem? (i := 724) (by decide +kernel)⟩
theorem lw_p27 : lw_okq (⟨"BoundedTypes$Declarations", "wrongInMethod", "(LBoundedTypes$Entry;LBoundedTypes$Member;)I"⟩, 3) := ⟨⟨by decide +kernel, by decide +kernel⟩, List.mem_of_getElem? (i := 294) (by decide +kernel), List.mem_of_getElem? (i := 771) (by decide +kernel), List.mem_of_getElem? (i := 772) (by decide +kernel)⟩
theorem lw_p28 : lw_okq (⟨"BoundedTypes$Declarations", "fitsAbove", "(LBoundedTypes$Entry;LBoundedTypes$Member;)Z"⟩, 3) := ⟨⟨by decide +kernel, by decide +kernel⟩, List.mem_of_getElem? (i := 294) (by decide +kernel), List.mem_of_getElem? (i := 792) (by decide +kernel), List.mem_of_getElem? (i := 793) (by decide +kernel)⟩
theorem lw_p29 : lw_okq (⟨"BoundedTypes$Declarations", "wrongInField", "(LBoundedTypes$Entry;LBoundedTypes$Member;)I"⟩, 3) := ⟨⟨by decide +kernel, by decide +kernel⟩, List.mem_of_getElem? (i := 294) (by decide +kernel), List.mem_of_getElem? (i := 819) (by decide +kernel), List.mem_of_getElem? (i := 820) (by decide +kernel)⟩
theorem lw_p30 : lw_okq (⟨"BoundedTypes$Expressions", "wrongInName", "(I)I"⟩, 8) := ⟨⟨by decide +kernel, by decide +kernel⟩, List.mem_of_getElem? (i := 263) (by decide +kernel), List.mem_of_getElem? (i := 843) (by decide +kernel), List.mem_of_getElem? (i := 844) (by decide +kernel)⟩
theorem lw_p31 : lw_okq (⟨"BoundedTypes$Expressions", "push", "(I)V"⟩, 8) := ⟨⟨by decide +kernel, by decide +kernel⟩, List.mem_of_getElem? (i := 263) (by decide +kernel), List.mem_of_getElem? (i := 847) (by decide +kernel), List.mem_of_getElem? (i := 848) (by decide +kernel)⟩
def lw_privs_2 : List (MethodName × Nat) := [(⟨"BoundedTypes$Reader", "selection", "()V"⟩, 10), (⟨"java/util/ArrayList", "add", "(Ljava/lang/Object;[Ljava/lang/Object;I)V"⟩, 3), (⟨"java/util/ArrayList", "grow", "()[Ljava/lang/Object;"⟩, 3), (⟨"java/util/ArrayList", "grow", "(I)[Ljava/lang/Object;"⟩, 3), (⟨"BoundedTypes$Reader", "takeEnd", "()V"⟩, 10), (⟨"BoundedTypes$Bounds", "indexOf", "(I)I"⟩, 3), (⟨"BoundedTypes$Declarations", "enter", "(LBoundedTypes$Entry;LBoundedTypes$Member;)V"⟩, 3), (⟨"BoundedTypes$Declarations", "areGood", "([II)Z"⟩, 3), (⟨"BoundedTypes$Rules", "good", "(II)Z"⟩, 4), (⟨"BoundedTypes$Rules", "standFor", "(LBoundedTypes$Entry;I)V"⟩, 4), (⟨"BoundedTypes$Rules", "filled", "(II)I"⟩, 4), (⟨"BoundedTypes$Declarations", "wrongInMethod", "(LBoundedTypes$Entry;LBoundedTypes$Member;)I"⟩, 3), (⟨"BoundedTypes$Declarations", "fitsAbove", "(LBoundedTypes$Entry;LBoundedTypes$Member;)Z"⟩, 3), (⟨"BoundedTypes$Declarations", "wrongInField", "(LBoundedTypes$Entry;LBoundedTypes$Member;)I"⟩, 3), (⟨"BoundedTypes$Expressions", "wrongInName", "(I)I"⟩, 8), (⟨"BoundedTypes$Expressions", "push", "(I)V"⟩, 8)]
theorem lw_r2 : ∀ q ∈ lw_privs_2, lw_okq q := List.forall_mem_cons.mpr ⟨lw_p16, List.forall_mem_cons.mpr ⟨lw_p17, List.forall_mem_cons.mpr ⟨lw_p18, List.forall_mem_cons.mpr ⟨lw_p19, List.forall_mem_cons.mpr ⟨lw_p20, List.forall_mem_cons.mpr ⟨lw_p21, List.forall_mem_cons.mpr ⟨lw_p22, List.forall_mem_cons.mpr ⟨lw_p23, List.forall_mem_cons.mpr ⟨lw_p24, List.forall_mem_cons.mpr ⟨lw_p25, List.forall_mem_cons.mpr ⟨lw_p26, List.forall_mem_cons.mpr ⟨lw_p27, List.forall_mem_cons.mpr ⟨lw_p28, List.forall_mem_cons.mpr ⟨lw_p29, List.forall_mem_cons.mpr ⟨lw_p30, List.forall_mem_cons.mpr ⟨lw_p31, fun _ h => absurd h List.not_mem_nil⟩⟩⟩⟩⟩⟩⟩⟩⟩⟩⟩⟩⟩⟩⟩⟩
theorem lw_p32 : lw_okq (⟨"BoundedTypes$Expressions", "wrongInField", "(I)I"⟩, 8) := ⟨⟨by decide +kernel, by decide +kernel⟩, List.mem_of_getElem? (i := 263) (by decide +kernel), List.mem_of_getElem? (i := 851) (by decide +kernel), List.mem_of_getElem? (i := 852) (by decide +kernel)⟩
theorem lw_p33 : lw_okq (⟨"BoundedTypes$Expressions", "pop", "()I"⟩, 8) := ⟨⟨by decide +kernel, by decide +kernel⟩, List.mem_of_getElem? (i := 263) (by decide +kernel), List.mem_of_getElem? (i := 855) (by decide +kernel), List.mem_of_getElem? (i := 856) (by decide +kernel)⟩
theorem lw_p34 : lw_okq (⟨"BoundedTypes$Rules", "fieldFilled", "(LBoundedTypes$Entry;II)I"⟩, 4) := ⟨⟨by decide +kernel, by decide +kernel⟩, List.mem_of_getElem? (i := 100) (by decide +kernel), List.mem_of_getElem? (i := 868) (by decide +kernel), List.mem_of_getElem? (i := 869) (by decide +kernel)⟩
theorem lw_p35 : lw_okq (⟨"BoundedTypes$Expressions", "wrongInCall", "(III)I"⟩, 8) := ⟨⟨by decide +kernel, by decide +kernel⟩, List.mem_of_getElem? (i := 263) (by decide +kernel), List.mem_of_getElem? (i := 872) (by decide +kernel), List.mem_of_getElem? (i := 873) (by decide +kernel)⟩
theorem lw_p36 : lw_okq (⟨"BoundedTypes$Expressions", "wrongInNew", "(II)I"⟩, 8) := ⟨⟨by decide +kernel, by decide +kernel⟩, List.mem_of_getElem? (i := 263) (by decide +kernel), List.mem_of_getElem? (i := 883) (by decide +kernel), List.mem_of_getElem? (i := 884) (by decide +kernel)⟩
theorem lw_p37 : lw_okq (⟨"BoundedTypes$Expressions", "wrongInArgument", "()I"⟩, 8) := ⟨⟨by decide +kernel, by decide +kernel⟩, List.mem_of_getElem? (i := 263) (by decide +kernel), List.mem_of_getElem? (i := 891) (by decide +kernel), List.mem_of_getElem? (i := 892) (by decide +kernel)⟩
theorem lw_p38 : lw_okq (⟨"BoundedTypes$Expressions", "wrongInCast", "(I)I"⟩, 8) := ⟨⟨by decide +kernel, by decide +kernel⟩, List.mem_of_getElem? (i := 263) (by decide +kernel), List.mem_of_getElem? (i := 895) (by decide +kernel), List.mem_of_getElem? (i := 896) (by decide +kernel)⟩
theorem lw_p39 : lw_okq (⟨"BoundedTypes$Machine", "step", "()I"⟩, 17) := ⟨⟨by decide +kernel, by decide +kernel⟩, List.mem_of_getElem? (i := 310) (by decide +kernel), List.mem_of_getElem? (i := 945) (by decide +kernel), List.mem_of_getElem? (i := 946) (by decide +kernel)⟩
theorem lw_p40 : lw_okq (⟨"BoundedTypes$Machine", "pushNamed", "(I)V"⟩, 17) := ⟨⟨by decide +kernel, by decide +kernel⟩, List.mem_of_getElem? (i := 310) (by decide +kernel), List.mem_of_getElem? (i := 949) (by decide +kernel), List.mem_of_getElem? (i := 950) (by decide +kernel)⟩
theorem lw_p41 : lw_okq (⟨"BoundedTypes$Machine", "push", "(I)V"⟩, 17) := ⟨⟨by decide +kernel, by decide +kernel⟩, List.mem_of_getElem? (i := 310) (by decide +kernel), List.mem_of_getElem? (i := 953) (by decide +kernel), List.mem_of_getElem? (i := 954) (by decide +kernel)⟩
theorem lw_p42 : lw_okq (⟨"BoundedTypes$Machine", "selectField", "(I)I"⟩, 17) := ⟨⟨by decide +kernel, by decide +kernel⟩, List.mem_of_getElem? (i := 310) (by decide +kernel), List.mem_of_getElem? (i := 957) (by decide +kernel), List.mem_of_getElem? (i := 958) (by decide +kernel)⟩
theorem lw_p43 : lw_okq (⟨"BoundedTypes$Machine", "peek", "()I"⟩, 17) := ⟨⟨by decide +kernel, by decide +kernel⟩, List.mem_of_getElem? (i := 310) (by decide +kernel), List.mem_of_getElem? (i := 961) (by decide +kernel), List.mem_of_getElem? (i := 962) (by decide +kernel)⟩
theorem lw_p44 : lw_okq (⟨"BoundedTypes$Machine", "classOf", "(I)I"⟩, 17) := ⟨⟨by decide +kernel, by decide +kernel⟩, List.mem_of_getElem? (i := 310) (by decide +kernel), List.mem_of_getElem? (i := 965) (by decide +kernel), List.mem_of_getElem? (i := 966) (by decide +kernel)⟩
theorem lw_p45 : lw_okq (⟨"BoundedTypes$Machine", "fieldOf", "(II)I"⟩, 17) := ⟨⟨by decide +kernel, by decide +kernel⟩, List.mem_of_getElem? (i := 310) (by decide +kernel), List.mem_of_getElem? (i := 971) (by decide +kernel), List.mem_of_getElem? (i := 972) (by decide +kernel)⟩
theorem lw_p46 : lw_okq (⟨"BoundedTypes$Machine", "enterCall", "(II)I"⟩, 17) := ⟨⟨by decide +kernel, by decide +kernel⟩, List.mem_of_getElem? (i := 310) (by decide +kernel), List.mem_of_getElem? (i := 975) (by decide +kernel), List.mem_of_getElem? (i := 976) (by decide +kernel)⟩
theorem lw_p47 : lw_okq (⟨"BoundedTypes$Machine", "makeValue", "(II)V"⟩, 17) := ⟨⟨by decide +kernel, by decide +kernel⟩, List.mem_of_getElem? (i := 310) (by decide +kernel), List.mem_of_getElem? (i := 984) (by decide +kernel), List.mem_of_getElem? (i := 985) (by decide +kernel)⟩
def lw_privs_3 : List (MethodName × Nat) := [(⟨"BoundedTypes$Expressions", "wrongInField", "(I)I"⟩, 8), (⟨"BoundedTypes$Expressions", "pop", "()I"⟩, 8), (⟨"BoundedTypes$Rules", "fieldFilled", "(LBoundedTypes$Entry;II)I"⟩, 4), (⟨"BoundedTypes$Expressions", "wrongInCall", "(III)I"⟩, 8), (⟨"BoundedTypes$Expressions", "wrongInNew", "(II)I"⟩, 8), (⟨"BoundedTypes$Expressions", "wrongInArgument", "()I"⟩, 8), (⟨"BoundedTypes$Expressions", "wrongInCast", "(I)I"⟩, 8), (⟨"BoundedTypes$Machine", "step", "()I"⟩, 17), (⟨"BoundedTypes$Machine", "pushNamed", "(I)V"⟩, 17), (⟨"BoundedTypes$Machine", "push", "(I)V"⟩, 17), (⟨"BoundedTypes$Machine", "selectField", "(I)I"⟩, 17), (⟨"BoundedTypes$Machine", "peek", "()I"⟩, 17), (⟨"BoundedTypes$Machine", "classOf", "(I)I"⟩, 17), (⟨"BoundedTypes$Machine", "fieldOf", "(II)I"⟩, 17), (⟨"BoundedTypes$Machine", "enterCall", "(II)I"⟩, 17), (⟨"BoundedTypes$Machine", "makeValue", "(II)V"⟩, 17)]
theorem lw_r3 : ∀ q ∈ lw_privs_3, lw_okq q := List.forall_mem_cons.mpr ⟨lw_p32, List.forall_mem_cons.mpr ⟨lw_p33, List.forall_mem_cons.mpr ⟨lw_p34, List.forall_mem_cons.mpr ⟨lw_p35, List.forall_mem_cons.mpr ⟨lw_p36, List.forall_mem_cons.mpr ⟨lw_p37, List.forall_mem_cons.mpr ⟨lw_p38, List.forall_mem_cons.mpr ⟨lw_p39, List.forall_mem_cons.mpr ⟨lw_p40, List.forall_mem_cons.mpr ⟨lw_p41, List.forall_mem_cons.mpr ⟨lw_p42, List.forall_mem_cons.mpr ⟨lw_p43, List.forall_mem_cons.mpr ⟨lw_p44, List.forall_mem_cons.mpr ⟨lw_p45, List.forall_mem_cons.mpr ⟨lw_p46, List.forall_mem_cons.mpr ⟨lw_p47, fun _ h => absurd h List.not_mem_nil⟩⟩⟩⟩⟩⟩⟩⟩⟩⟩⟩⟩⟩⟩⟩⟩
theorem lw_p48 : lw_okq (⟨"BoundedTypes$Machine", "leaveCall", "()V"⟩, 17) := ⟨⟨by decide +kernel, by decide +kernel⟩, List.mem_of_getElem? (i := 310) (by decide +kernel), List.mem_of_getElem? (i := 994) (by decide +kernel), List.mem_of_getElem? (i := 995) (by decide +kernel)⟩
theorem lw_p49 : lw_okq (⟨"BoundedTypes$Machine", "writeText", "(I)V"⟩, 17) := ⟨⟨by decide +kernel, by decide +kernel⟩, List.mem_of_getElem? (i := 310) (by decide +kernel), List.mem_of_getElem? (i := 998) (by decide +kernel), List.mem_of_getElem? (i := 999) (by decide +kernel)⟩
theorem lw_p50 : lw_okq (⟨"BoundedTypes$Machine", "openValue", "(II)I"⟩, 17) := ⟨⟨by decide +kernel, by decide +kernel⟩, List.mem_of_getElem? (i := 310) (by decide +kernel), List.mem_of_getElem? (i := 1002) (by decide +kernel), List.mem_of_getElem? (i := 1003) (by decide +kernel)⟩
theorem lw_p51 : lw_okq (⟨"BoundedTypes$Machine", "put", "(C)V"⟩, 17) := ⟨⟨by decide +kernel, by decide +kernel⟩, List.mem_of_getElem? (i := 310) (by decide +kernel), List.mem_of_getElem? (i := 1006) (by decide +kernel), List.mem_of_getElem? (i := 1007) (by decide +kernel)⟩
theorem lw_p52 : lw_okq (⟨"BoundedTypesModel", "noScope", "()V"⟩, 59) := ⟨⟨by decide +kernel, by decide +kernel⟩, List.mem_of_getElem? (i := 1032) (by decide +kernel), List.mem_of_getElem? (i := 1038) (by decide +kernel), List.mem_of_getElem? (i := 1039) (by decide +kernel)⟩
theorem lw_p53 : lw_okq (⟨"BoundedTypesModel", "begin", "()V"⟩, 59) := ⟨⟨by decide +kernel, by decide +kernel⟩, List.mem_of_getElem? (i := 1032) (by decide +kernel), List.mem_of_getElem? (i := 1232) (by decide +kernel), List.mem_of_getElem? (i := 1233) (by decide +kernel)⟩
theorem lw_p54 : lw_okq (⟨"BoundedTypesModel", "readLetter", "(II)I"⟩, 59) := ⟨⟨by decide +kernel, by decide +kernel⟩, List.mem_of_getElem? (i := 1032) (by decide +kernel), List.mem_of_getElem? (i := 1236) (by decide +kernel), List.mem_of_getElem? (i := 1237) (by decide +kernel)⟩
theorem lw_p55 : lw_okq (⟨"BoundedTypesModel", "look", "()I"⟩, 59) := ⟨⟨by decide +kernel, by decide +kernel⟩, List.mem_of_getElem? (i := 1032) (by decide +kernel), List.mem_of_getElem? (i := 1240) (by decide +kernel), List.mem_of_getElem? (i := 1241) (by decide +kernel)⟩
theorem lw_p56 : lw_okq (⟨"BoundedTypesModel", "fail", "()V"⟩, 59) := ⟨⟨by decide +kernel, by decide +kernel⟩, List.mem_of_getElem? (i := 1032) (by decide +kernel), List.mem_of_getElem? (i := 1244) (by decide +kernel), List.mem_of_getElem? (i := 1245) (by decide +kernel)⟩
theorem lw_p57 : lw_okq (⟨"BoundedTypesModel", "readBounds", "([I[II)I"⟩, 59) := ⟨⟨by decide +kernel, by decide +kernel⟩, List.mem_of_getElem? (i := 1032) (by decide +kernel), List.mem_of_getElem? (i := 1248) (by decide +kernel), List.mem_of_getElem? (i := 1249) (by decide +kernel)⟩
theorem lw_p58 : lw_okq (⟨"BoundedTypesModel", "open", "(I)V"⟩, 59) := ⟨⟨by decide +kernel, by decide +kernel⟩, List.mem_of_getElem? (i := 1032) (by decide +kernel), List.mem_of_getElem? (i := 1252) (by decide +kernel), List.mem_of_getElem? (i := 1253) (by decide +kernel)⟩
theorem lw_p59 : lw_okq (⟨"BoundedTypesModel", "expect", "(I)V"⟩, 59) := ⟨⟨by decide +kernel, by decide +kernel⟩, List.mem_of_getElem? (i := 1032) (by decide +kernel), List.mem_of_getElem? (i := 1256) (by decide +kernel), List.mem_of_getElem? (i := 1257) (by decide +kernel)⟩
theorem lw_p60 : lw_okq (⟨"BoundedTypesModel", "readType", "(Z)I"⟩, 59) := ⟨⟨by decide +kernel, by decide +kernel⟩, List.mem_of_getElem? (i := 1032) (by decide +kernel), List.mem_of_getElem? (i := 1260) (by decide +kernel), List.mem_of_getElem? (i := 1261) (by decide +kernel)⟩
theorem lw_p61 : lw_okq (⟨"BoundedTypesModel", "node", "(IIII)I"⟩, 59) := ⟨⟨by decide +kernel, by decide +kernel⟩, List.mem_of_getElem? (i := 1032) (by decide +kernel), List.mem_of_getElem? (i := 1264) (by decide +kernel), List.mem_of_getElem? (i := 1265) (by decide +kernel)⟩
theorem lw_p62 : lw_okq (⟨"BoundedTypesModel", "give", "(II)V"⟩, 59) := ⟨⟨by decide +kernel, by decide +kernel⟩, List.mem_of_getElem? (i := 1032) (by decide +kernel), List.mem_of_getElem? (i := 1268) (by decide +kernel), List.mem_of_getElem? (i := 1269) (by decide +kernel)⟩
theorem lw_p63 : lw_okq (⟨"BoundedTypesModel", "close", "(I)V"⟩, 59) := ⟨⟨by decide +kernel, by decide +kernel⟩, List.mem_of_getElem? (i := 1032) (by decide +kernel), List.mem_of_getElem? (i := 1272) (by decide +kernel), List.mem_of_getElem? (i := 1273) (by decide +kernel)⟩
def lw_privs_4 : List (MethodName × Nat) := [(⟨"BoundedTypes$Machine", "leaveCall", "()V"⟩, 17), (⟨"BoundedTypes$Machine", "writeText", "(I)V"⟩, 17), (⟨"BoundedTypes$Machine", "openValue", "(II)I"⟩, 17), (⟨"BoundedTypes$Machine", "put", "(C)V"⟩, 17), (⟨"BoundedTypesModel", "noScope", "()V"⟩, 59), (⟨"BoundedTypesModel", "begin", "()V"⟩, 59), (⟨"BoundedTypesModel", "readLetter", "(II)I"⟩, 59), (⟨"BoundedTypesModel", "look", "()I"⟩, 59), (⟨"BoundedTypesModel", "fail", "()V"⟩, 59), (⟨"BoundedTypesModel", "readBounds", "([I[II)I"⟩, 59), (⟨"BoundedTypesModel", "open", "(I)V"⟩, 59), (⟨"BoundedTypesModel", "expect", "(I)V"⟩, 59), (⟨"BoundedTypesModel", "readType", "(Z)I"⟩, 59), (⟨"BoundedTypesModel", "node", "(IIII)I"⟩, 59), (⟨"BoundedTypesModel", "give", "(II)V"⟩, 59), (⟨"BoundedTypesModel", "close", "(I)V"⟩, 59)]
theorem lw_r4 : ∀ q ∈ lw_privs_4, lw_okq q := List.forall_mem_cons.mpr ⟨lw_p48, List.forall_mem_cons.mpr ⟨lw_p49, List.forall_mem_cons.mpr ⟨lw_p50, List.forall_mem_cons.mpr ⟨lw_p51, List.forall_mem_cons.mpr ⟨lw_p52, List.forall_mem_cons.mpr ⟨lw_p53, List.forall_mem_cons.mpr ⟨lw_p54, List.forall_mem_cons.mpr ⟨lw_p55, List.forall_mem_cons.mpr ⟨lw_p56, List.forall_mem_cons.mpr ⟨lw_p57, List.forall_mem_cons.mpr ⟨lw_p58, List.forall_mem_cons.mpr ⟨lw_p59, List.forall_mem_cons.mpr ⟨lw_p60, List.forall_mem_cons.mpr ⟨lw_p61, List.forall_mem_cons.mpr ⟨lw_p62, List.forall_mem_cons.mpr ⟨lw_p63, fun _ h => absurd h List.not_mem_nil⟩⟩⟩⟩⟩⟩⟩⟩⟩⟩⟩⟩⟩⟩⟩⟩
theorem lw_p64 : lw_okq (⟨"BoundedTypesModel", "closed", "(I)I"⟩, 59) := ⟨⟨by decide +kernel, by decide +kernel⟩, List.mem_of_getElem? (i := 1032) (by decide +kernel), List.mem_of_getElem? (i := 1276) (by decide +kernel), List.mem_of_getElem? (i := 1277) (by decide +kernel)⟩
theorem lw_p65 : lw_okq (⟨"BoundedTypesModel", "readMember", "(I)V"⟩, 59) := ⟨⟨by decide +kernel, by decide +kernel⟩, List.mem_of_getElem? (i := 1032) (by decide +kernel), List.mem_of_getElem? (i := 1280) (by decide +kernel), List.mem_of_getElem? (i := 1281) (by decide +kernel)⟩
theorem lw_p66 : lw_okq (⟨"BoundedTypesModel", "readExpression", "()V"⟩, 59) := ⟨⟨by decide +kernel, by decide +kernel⟩, List.mem_of_getElem? (i := 1032) (by decide +kernel), List.mem_of_getElem? (i := 1284) (by decide +kernel), List.mem_of_getElem? (i := 1285) (by decide +kernel)⟩
theorem lw_p67 : lw_okq (⟨"BoundedTypesModel", "readBase", "(I)I"⟩, 59) := ⟨⟨by decide +kernel, by decide +kernel⟩, List.mem_of_getElem? (i := 1032) (by decide +kernel), List.mem_of_getElem? (i := 1288) (by decide +kernel), List.mem_of_getElem? (i := 1289) (by decide +kernel)⟩
theorem lw_p68 : lw_okq (⟨"BoundedTypesModel", "push", "(III)I"⟩, 59) := ⟨⟨by decide +kernel, by decide +kernel⟩, List.mem_of_getElem? (i := 1032) (by decide +kernel), List.mem_of_getElem? (i := 1292) (by decide +kernel), List.mem_of_getElem? (i := 1293) (by decide +kernel)⟩
theorem lw_p69 : lw_okq (⟨"BoundedTypesModel", "put", "(III)V"⟩, 59) := ⟨⟨by decide +kernel, by decide +kernel⟩, List.mem_of_getElem? (i := 1032) (by decide +kernel), List.mem_of_getElem? (i := 1296) (by decide +kernel), List.mem_of_getElem? (i := 1297) (by decide +kernel)⟩
theorem lw_p70 : lw_okq (⟨"BoundedTypesModel", "beginAll", "(III)I"⟩, 59) := ⟨⟨by decide +kernel, by decide +kernel⟩, List.mem_of_getElem? (i := 1032) (by decide +kernel), List.mem_of_getElem? (i := 1303) (by decide +kernel), List.mem_of_getElem? (i := 1304) (by decide +kernel)⟩
theorem lw_p71 : lw_okq (⟨"BoundedTypesModel", "finish", "(I)V"⟩, 59) := ⟨⟨by decide +kernel, by decide +kernel⟩, List.mem_of_getElem? (i := 1032) (by decide +kernel), List.mem_of_getElem? (i := 1307) (by decide +kernel), List.mem_of_getElem? (i := 1308) (by decide +kernel)⟩
theorem lw_p72 : lw_okq (⟨"BoundedTypesModel", "firstOf", "(I)I"⟩, 59) := ⟨⟨by decide +kernel, by decide +kernel⟩, List.mem_of_getElem? (i := 1032) (by decide +kernel), List.mem_of_getElem? (i := 1311) (by decide +kernel), List.mem_of_getElem? (i := 1312) (by decide +kernel)⟩
theorem lw_p73 : lw_okq (⟨"BoundedTypesModel", "givenOf", "(II)I"⟩, 59) := ⟨⟨by decide +kernel, by decide +kernel⟩, List.mem_of_getElem? (i := 1032) (by decide +kernel), List.mem_of_getElem? (i := 1316) (by decide +kernel), List.mem_of_getElem? (i := 1317) (by decide +kernel)⟩
theorem lw_p74 : lw_okq (⟨"BoundedTypesModel", "classOf", "(I)I"⟩, 59) := ⟨⟨by decide +kernel, by decide +kernel⟩, List.mem_of_getElem? (i := 1032) (by decide +kernel), List.mem_of_getElem? (i := 1323) (by decide +kernel), List.mem_of_getElem? (i := 1324) (by decide +kernel)⟩
theorem lw_p75 : lw_okq (⟨"BoundedTypesModel", "readSelection", "(I)I"⟩, 59) := ⟨⟨by decide +kernel, by decide +kernel⟩, List.mem_of_getElem? (i := 1032) (by decide +kernel), List.mem_of_getElem? (i := 1327) (by decide +kernel), List.mem_of_getElem? (i := 1328) (by decide +kernel)⟩
theorem lw_p76 : lw_okq (⟨"BoundedTypesModel", "check", "(III)V"⟩, 59) := ⟨⟨by decide +kernel, by decide +kernel⟩, List.mem_of_getElem? (i := 1032) (by decide +kernel), List.mem_of_getElem? (i := 1331) (by decide +kernel), List.mem_of_getElem? (i := 1332) (by decide +kernel)⟩
theorem lw_p77 : lw_okq (⟨"BoundedTypesModel", "wrongIf", "(ZI)V"⟩, 59) := ⟨⟨by decide +kernel, by decide +kernel⟩, List.mem_of_getElem? (i := 1032) (by decide +kernel), List.mem_of_getElem? (i := 1338) (by decide +kernel), List.mem_of_getElem? (i := 1339) (by decide +kernel)⟩
theorem lw_p78 : lw_okq (⟨"BoundedTypesModel", "scope", "(II)V"⟩, 59) := ⟨⟨by decide +kernel, by decide +kernel⟩, List.mem_of_getElem? (i := 1032) (by decide +kernel), List.mem_of_getElem? (i := 1342) (by decide +kernel), List.mem_of_getElem? (i := 1343) (by decide +kernel)⟩
theorem lw_p79 : lw_okq (⟨"BoundedTypesModel", "isGood", "(I)Z"⟩, 59) := ⟨⟨by decide +kernel, by decide +kernel⟩, List.mem_of_getElem? (i := 1032) (by decide +kernel), List.mem_of_getElem? (i := 1346) (by decide +kernel), List.mem_of_getElem? (i := 1347) (by decide +kernel)⟩
def lw_privs_5 : List (MethodName × Nat) := [(⟨"BoundedTypesModel", "closed", "(I)I"⟩, 59), (⟨"BoundedTypesModel", "readMember", "(I)V"⟩, 59), (⟨"BoundedTypesModel", "readExpression", "()V"⟩, 59), (⟨"BoundedTypesModel", "readBase", "(I)I"⟩, 59), (⟨"BoundedTypesModel", "push", "(III)I"⟩, 59), (⟨"BoundedTypesModel", "put", "(III)V"⟩, 59), (⟨"BoundedTypesModel", "beginAll", "(III)I"⟩, 59), (⟨"BoundedTypesModel", "finish", "(I)V"⟩, 59), (⟨"BoundedTypesModel", "firstOf", "(I)I"⟩, 59), (⟨"BoundedTypesModel", "givenOf", "(II)I"⟩, 59), (⟨"BoundedTypesModel", "classOf", "(I)I"⟩, 59), (⟨"BoundedTypesModel", "readSelection", "(I)I"⟩, 59), (⟨"BoundedTypesModel", "check", "(III)V"⟩, 59), (⟨"BoundedTypesModel", "wrongIf", "(ZI)V"⟩, 59), (⟨"BoundedTypesModel", "scope", "(II)V"⟩, 59), (⟨"BoundedTypesModel", "isGood", "(I)Z"⟩, 59)]
theorem lw_r5 : ∀ q ∈ lw_privs_5, lw_okq q := List.forall_mem_cons.mpr ⟨lw_p64, List.forall_mem_cons.mpr ⟨lw_p65, List.forall_mem_cons.mpr ⟨lw_p66, List.forall_mem_cons.mpr ⟨lw_p67, List.forall_mem_cons.mpr ⟨lw_p68, List.forall_mem_cons.mpr ⟨lw_p69, List.forall_mem_cons.mpr ⟨lw_p70, List.forall_mem_cons.mpr ⟨lw_p71, List.forall_mem_cons.mpr ⟨lw_p72, List.forall_mem_cons.mpr ⟨lw_p73, List.forall_mem_cons.mpr ⟨lw_p74, List.forall_mem_cons.mpr ⟨lw_p75, List.forall_mem_cons.mpr ⟨lw_p76, List.forall_mem_cons.mpr ⟨lw_p77, List.forall_mem_cons.mpr ⟨lw_p78, List.forall_mem_cons.mpr ⟨lw_p79, fun _ h => absurd h List.not_mem_nil⟩⟩⟩⟩⟩⟩⟩⟩⟩⟩⟩⟩⟩⟩⟩⟩
theorem lw_p80 : lw_okq (⟨"BoundedTypesModel", "partOf", "(II)I"⟩, 59) := ⟨⟨by decide +kernel, by decide +kernel⟩, List.mem_of_getElem? (i := 1032) (by decide +kernel), List.mem_of_getElem? (i := 1350) (by decide +kernel), List.mem_of_getElem? (i := 1351) (by decide +kernel)⟩
theorem lw_p81 : lw_okq (⟨"BoundedTypesModel", "reach", "(II)I"⟩, 59) := ⟨⟨by decide +kernel, by decide +kernel⟩, List.mem_of_getElem? (i := 1032) (by decide +kernel), List.mem_of_getElem? (i := 1354) (by decide +kernel), List.mem_of_getElem? (i := 1355) (by decide +kernel)⟩
theorem lw_p82 : lw_okq (⟨"BoundedTypesModel", "fits", "(I)Z"⟩, 59) := ⟨⟨by decide +kernel, by decide +kernel⟩, List.mem_of_getElem? (i := 1032) (by decide +kernel), List.mem_of_getElem? (i := 1358) (by decide +kernel), List.mem_of_getElem? (i := 1359) (by decide +kernel)⟩
theorem lw_p83 : lw_okq (⟨"BoundedTypesModel", "isVariable", "(I)Z"⟩, 59) := ⟨⟨by decide +kernel, by decide +kernel⟩, List.mem_of_getElem? (i := 1032) (by decide +kernel), List.mem_of_getElem? (i := 1362) (by decide +kernel), List.mem_of_getElem? (i := 1363) (by decide +kernel)⟩
theorem lw_p84 : lw_okq (⟨"BoundedTypesModel", "counts", "(I)I"⟩, 59) := ⟨⟨by decide +kernel, by decide +kernel⟩, List.mem_of_getElem? (i := 1032) (by decide +kernel), List.mem_of_getElem? (i := 1366) (by decide +kernel), List.mem_of_getElem? (i := 1367) (by decide +kernel)⟩
theorem lw_p85 : lw_okq (⟨"BoundedTypesModel", "clearMap", "()V"⟩, 59) := ⟨⟨by decide +kernel, by decide +kernel⟩, List.mem_of_getElem? (i := 1032) (by decide +kernel), List.mem_of_getElem? (i := 1370) (by decide +kernel), List.mem_of_getElem? (i := 1371) (by decide +kernel)⟩
theorem lw_p86 : lw_okq (⟨"BoundedTypesModel", "mapClass", "(I)V"⟩, 59) := ⟨⟨by decide +kernel, by decide +kernel⟩, List.mem_of_getElem? (i := 1032) (by decide +kernel), List.mem_of_getElem? (i := 1374) (by decide +kernel), List.mem_of_getElem? (i := 1375) (by decide +kernel)⟩
theorem lw_p87 : lw_okq (⟨"BoundedTypesModel", "fill", "(I)I"⟩, 59) := ⟨⟨by decide +kernel, by decide +kernel⟩, List.mem_of_getElem? (i := 1032) (by decide +kernel), List.mem_of_getElem? (i := 1378) (by decide +kernel), List.mem_of_getElem? (i := 1379) (by decide +kernel)⟩
theorem lw_p88 : lw_okq (⟨"BoundedTypesModel", "filled", "(II)I"⟩, 59) := ⟨⟨by decide +kernel, by decide +kernel⟩, List.mem_of_getElem? (i := 1032) (by decide +kernel), List.mem_of_getElem? (i := 1382) (by decide +kernel), List.mem_of_getElem? (i := 1383) (by decide +kernel)⟩
theorem lw_p89 : lw_okq (⟨"BoundedTypesModel", "lies", "(II)Z"⟩, 59) := ⟨⟨by decide +kernel, by decide +kernel⟩, List.mem_of_getElem? (i := 1032) (by decide +kernel), List.mem_of_getElem? (i := 1386) (by decide +kernel), List.mem_of_getElem? (i := 1387) (by decide +kernel)⟩
theorem lw_p90 : lw_okq (⟨"BoundedTypesModel", "above", "(I)I"⟩, 59) := ⟨⟨by decide +kernel, by decide +kernel⟩, List.mem_of_getElem? (i := 1032) (by decide +kernel), List.mem_of_getElem? (i := 1390) (by decide +kernel), List.mem_of_getElem? (i := 1391) (by decide +kernel)⟩
theorem lw_p91 : lw_okq (⟨"BoundedTypesModel", "checkField", "(II)V"⟩, 59) := ⟨⟨by decide +kernel, by decide +kernel⟩, List.mem_of_getElem? (i := 1032) (by decide +kernel), List.mem_of_getElem? (i := 1394) (by decide +kernel), List.mem_of_getElem? (i := 1395) (by decide +kernel)⟩
theorem lw_p92 : lw_okq (⟨"BoundedTypesModel", "upper", "(I)I"⟩, 59) := ⟨⟨by decide +kernel, by decide +kernel⟩, List.mem_of_getElem? (i := 1032) (by decide +kernel), List.mem_of_getElem? (i := 1398) (by decide +kernel), List.mem_of_getElem? (i := 1399) (by decide +kernel)⟩
theorem lw_p93 : lw_okq (⟨"BoundedTypesModel", "checkMethod", "(II)V"⟩, 59) := ⟨⟨by decide +kernel, by decide +kernel⟩, List.mem_of_getElem? (i := 1032) (by decide +kernel), List.mem_of_getElem? (i := 1402) (by decide +kernel), List.mem_of_getElem? (i := 1403) (by decide +kernel)⟩
theorem lw_p94 : lw_okq (⟨"BoundedTypesModel", "overrides", "(II)Z"⟩, 59) := ⟨⟨by decide +kernel, by decide +kernel⟩, List.mem_of_getElem? (i := 1032) (by decide +kernel), List.mem_of_getElem? (i := 1406) (by decide +kernel), List.mem_of_getElem? (i := 1407) (by decide +kernel)⟩
theorem lw_p95 : lw_okq (⟨"BoundedTypesModel", "methodOf", "(II)I"⟩, 59) := ⟨⟨by decide +kernel, by decide +kernel⟩, List.mem_of_getElem? (i := 1032) (by decide +kernel), List.mem_of_getElem? (i := 1410) (by decide +kernel), List.mem_of_getElem? (i := 1411) (by decide +kernel)⟩
def lw_privs_6 : List (MethodName × Nat) := [(⟨"BoundedTypesModel", "partOf", "(II)I"⟩, 59), (⟨"BoundedTypesModel", "reach", "(II)I"⟩, 59), (⟨"BoundedTypesModel", "fits", "(I)Z"⟩, 59), (⟨"BoundedTypesModel", "isVariable", "(I)Z"⟩, 59), (⟨"BoundedTypesModel", "counts", "(I)I"⟩, 59), (⟨"BoundedTypesModel", "clearMap", "()V"⟩, 59), (⟨"BoundedTypesModel", "mapClass", "(I)V"⟩, 59), (⟨"BoundedTypesModel", "fill", "(I)I"⟩, 59), (⟨"BoundedTypesModel", "filled", "(II)I"⟩, 59), (⟨"BoundedTypesModel", "lies", "(II)Z"⟩, 59), (⟨"BoundedTypesModel", "above", "(I)I"⟩, 59), (⟨"BoundedTypesModel", "checkField", "(II)V"⟩, 59), (⟨"BoundedTypesModel", "upper", "(I)I"⟩, 59), (⟨"BoundedTypesModel", "checkMethod", "(II)V"⟩, 59), (⟨"BoundedTypesModel", "overrides", "(II)Z"⟩, 59), (⟨"BoundedTypesModel", "methodOf", "(II)I"⟩, 59)]
theorem lw_r6 : ∀ q ∈ lw_privs_6, lw_okq q := List.forall_mem_cons.mpr ⟨lw_p80, List.forall_mem_cons.mpr ⟨lw_p81, List.forall_mem_cons.mpr ⟨lw_p82, List.forall_mem_cons.mpr ⟨lw_p83, List.forall_mem_cons.mpr ⟨lw_p84, List.forall_mem_cons.mpr ⟨lw_p85, List.forall_mem_cons.mpr ⟨lw_p86, List.forall_mem_cons.mpr ⟨lw_p87, List.forall_mem_cons.mpr ⟨lw_p88, List.forall_mem_cons.mpr ⟨lw_p89, List.forall_mem_cons.mpr ⟨lw_p90, List.forall_mem_cons.mpr ⟨lw_p91, List.forall_mem_cons.mpr ⟨lw_p92, List.forall_mem_cons.mpr ⟨lw_p93, List.forall_mem_cons.mpr ⟨lw_p94, List.forall_mem_cons.mpr ⟨lw_p95, fun _ h => absurd h List.not_mem_nil⟩⟩⟩⟩⟩⟩⟩⟩⟩⟩⟩⟩⟩⟩⟩⟩
theorem lw_p96 : lw_okq (⟨"BoundedTypesModel", "mapOther", "(III)V"⟩, 59) := ⟨⟨by decide +kernel, by decide +kernel⟩, List.mem_of_getElem? (i := 1032) (by decide +kernel), List.mem_of_getElem? (i := 1414) (by decide +kernel), List.mem_of_getElem? (i := 1415) (by decide +kernel)⟩
theorem lw_p97 : lw_okq (⟨"BoundedTypesModel", "typeOf", "(III)I"⟩, 59) := ⟨⟨by decide +kernel, by decide +kernel⟩, List.mem_of_getElem? (i := 1032) (by decide +kernel), List.mem_of_getElem? (i := 1418) (by decide +kernel), List.mem_of_getElem? (i := 1419) (by decide +kernel)⟩
theorem lw_p98 : lw_okq (⟨"BoundedTypesModel", "opOf", "(I)I"⟩, 59) := ⟨⟨by decide +kernel, by decide +kernel⟩, List.mem_of_getElem? (i := 1032) (by decide +kernel), List.mem_of_getElem? (i := 1422) (by decide +kernel), List.mem_of_getElem? (i := 1423) (by decide +kernel)⟩
theorem lw_p99 : lw_okq (⟨"BoundedTypesModel", "nameType", "(II)I"⟩, 59) := ⟨⟨by decide +kernel, by decide +kernel⟩, List.mem_of_getElem? (i := 1032) (by decide +kernel), List.mem_of_getElem? (i := 1426) (by decide +kernel), List.mem_of_getElem? (i := 1427) (by decide +kernel)⟩
theorem lw_p100 : lw_okq (⟨"BoundedTypesModel", "thisType", "(I)I"⟩, 59) := ⟨⟨by decide +kernel, by decide +kernel⟩, List.mem_of_getElem? (i := 1032) (by decide +kernel), List.mem_of_getElem? (i := 1430) (by decide +kernel), List.mem_of_getElem? (i := 1431) (by decide +kernel)⟩
theorem lw_p101 : lw_okq (⟨"BoundedTypesModel", "boundOf", "(I)I"⟩, 59) := ⟨⟨by decide +kernel, by decide +kernel⟩, List.mem_of_getElem? (i := 1032) (by decide +kernel), List.mem_of_getElem? (i := 1434) (by decide +kernel), List.mem_of_getElem? (i := 1435) (by decide +kernel)⟩
theorem lw_p102 : lw_okq (⟨"BoundedTypesModel", "fieldOf", "(II)I"⟩, 59) := ⟨⟨by decide +kernel, by decide +kernel⟩, List.mem_of_getElem? (i := 1032) (by decide +kernel), List.mem_of_getElem? (i := 1438) (by decide +kernel), List.mem_of_getElem? (i := 1439) (by decide +kernel)⟩
theorem lw_p103 : lw_okq (⟨"BoundedTypesModel", "beginCall", "(III)I"⟩, 59) := ⟨⟨by decide +kernel, by decide +kernel⟩, List.mem_of_getElem? (i := 1032) (by decide +kernel), List.mem_of_getElem? (i := 1442) (by decide +kernel), List.mem_of_getElem? (i := 1443) (by decide +kernel)⟩
theorem lw_p104 : lw_okq (⟨"BoundedTypesModel", "secondOf", "(I)I"⟩, 59) := ⟨⟨by decide +kernel, by decide +kernel⟩, List.mem_of_getElem? (i := 1032) (by decide +kernel), List.mem_of_getElem? (i := 1446) (by decide +kernel), List.mem_of_getElem? (i := 1447) (by decide +kernel)⟩
theorem lw_p105 : lw_okq (⟨"BoundedTypesModel", "filledFor", "(III)I"⟩, 59) := ⟨⟨by decide +kernel, by decide +kernel⟩, List.mem_of_getElem? (i := 1032) (by decide +kernel), List.mem_of_getElem? (i := 1450) (by decide +kernel), List.mem_of_getElem? (i := 1451) (by decide +kernel)⟩
theorem lw_p106 : lw_okq (⟨"BoundedTypesModel", "fieldsOf", "(I)I"⟩, 59) := ⟨⟨by decide +kernel, by decide +kernel⟩, List.mem_of_getElem? (i := 1032) (by decide +kernel), List.mem_of_getElem? (i := 1454) (by decide +kernel), List.mem_of_getElem? (i := 1455) (by decide +kernel)⟩
theorem lw_p107 : lw_okq (⟨"BoundedTypesModel", "fieldAt", "(II)I"⟩, 59) := ⟨⟨by decide +kernel, by decide +kernel⟩, List.mem_of_getElem? (i := 1032) (by decide +kernel), List.mem_of_getElem? (i := 1458) (by decide +kernel), List.mem_of_getElem? (i := 1459) (by decide +kernel)⟩
theorem lw_p108 : lw_okq (⟨"BoundedTypesModel", "castTo", "(II)I"⟩, 59) := ⟨⟨by decide +kernel, by decide +kernel⟩, List.mem_of_getElem? (i := 1032) (by decide +kernel), List.mem_of_getElem? (i := 1462) (by decide +kernel), List.mem_of_getElem? (i := 1463) (by decide +kernel)⟩
theorem lw_p109 : lw_okq (⟨"BoundedTypesModel", "keeps", "(II)Z"⟩, 59) := ⟨⟨by decide +kernel, by decide +kernel⟩, List.mem_of_getElem? (i := 1032) (by decide +kernel), List.mem_of_getElem? (i := 1466) (by decide +kernel), List.mem_of_getElem? (i := 1467) (by decide +kernel)⟩
theorem lw_p110 : lw_okq (⟨"BoundedTypesModel", "occurs", "(II)Z"⟩, 59) := ⟨⟨by decide +kernel, by decide +kernel⟩, List.mem_of_getElem? (i := 1032) (by decide +kernel), List.mem_of_getElem? (i := 1470) (by decide +kernel), List.mem_of_getElem? (i := 1471) (by decide +kernel)⟩
theorem lw_p111 : lw_okq (⟨"BoundedTypesModel", "classes", "()I"⟩, 59) := ⟨⟨by decide +kernel, by decide +kernel⟩, List.mem_of_getElem? (i := 1032) (by decide +kernel), List.mem_of_getElem? (i := 1474) (by decide +kernel), List.mem_of_getElem? (i := 1475) (by decide +kernel)⟩
def lw_privs_7 : List (MethodName × Nat) := [(⟨"BoundedTypesModel", "mapOther", "(III)V"⟩, 59), (⟨"BoundedTypesModel", "typeOf", "(III)I"⟩, 59), (⟨"BoundedTypesModel", "opOf", "(I)I"⟩, 59), (⟨"BoundedTypesModel", "nameType", "(II)I"⟩, 59), (⟨"BoundedTypesModel", "thisType", "(I)I"⟩, 59), (⟨"BoundedTypesModel", "boundOf", "(I)I"⟩, 59), (⟨"BoundedTypesModel", "fieldOf", "(II)I"⟩, 59), (⟨"BoundedTypesModel", "beginCall", "(III)I"⟩, 59), (⟨"BoundedTypesModel", "secondOf", "(I)I"⟩, 59), (⟨"BoundedTypesModel", "filledFor", "(III)I"⟩, 59), (⟨"BoundedTypesModel", "fieldsOf", "(I)I"⟩, 59), (⟨"BoundedTypesModel", "fieldAt", "(II)I"⟩, 59), (⟨"BoundedTypesModel", "castTo", "(II)I"⟩, 59), (⟨"BoundedTypesModel", "keeps", "(II)Z"⟩, 59), (⟨"BoundedTypesModel", "occurs", "(II)Z"⟩, 59), (⟨"BoundedTypesModel", "classes", "()I"⟩, 59)]
theorem lw_r7 : ∀ q ∈ lw_privs_7, lw_okq q := List.forall_mem_cons.mpr ⟨lw_p96, List.forall_mem_cons.mpr ⟨lw_p97, List.forall_mem_cons.mpr ⟨lw_p98, List.forall_mem_cons.mpr ⟨lw_p99, List.forall_mem_cons.mpr ⟨lw_p100, List.forall_mem_cons.mpr ⟨lw_p101, List.forall_mem_cons.mpr ⟨lw_p102, List.forall_mem_cons.mpr ⟨lw_p103, List.forall_mem_cons.mpr ⟨lw_p104, List.forall_mem_cons.mpr ⟨lw_p105, List.forall_mem_cons.mpr ⟨lw_p106, List.forall_mem_cons.mpr ⟨lw_p107, List.forall_mem_cons.mpr ⟨lw_p108, List.forall_mem_cons.mpr ⟨lw_p109, List.forall_mem_cons.mpr ⟨lw_p110, List.forall_mem_cons.mpr ⟨lw_p111, fun _ h => absurd h List.not_mem_nil⟩⟩⟩⟩⟩⟩⟩⟩⟩⟩⟩⟩⟩⟩⟩⟩
theorem lw_p112 : lw_okq (⟨"BoundedTypesModel", "perform", "(II)I"⟩, 59) := ⟨⟨by decide +kernel, by decide +kernel⟩, List.mem_of_getElem? (i := 1032) (by decide +kernel), List.mem_of_getElem? (i := 1483) (by decide +kernel), List.mem_of_getElem? (i := 1484) (by decide +kernel)⟩
theorem lw_p113 : lw_okq (⟨"BoundedTypesModel", "named", "(II)I"⟩, 59) := ⟨⟨by decide +kernel, by decide +kernel⟩, List.mem_of_getElem? (i := 1032) (by decide +kernel), List.mem_of_getElem? (i := 1487) (by decide +kernel), List.mem_of_getElem? (i := 1488) (by decide +kernel)⟩
theorem lw_p114 : lw_okq (⟨"BoundedTypesModel", "placeOf", "(II)I"⟩, 59) := ⟨⟨by decide +kernel, by decide +kernel⟩, List.mem_of_getElem? (i := 1032) (by decide +kernel), List.mem_of_getElem? (i := 1491) (by decide +kernel), List.mem_of_getElem? (i := 1492) (by decide +kernel)⟩
theorem lw_p115 : lw_okq (⟨"BoundedTypesModel", "make", "(III)I"⟩, 59) := ⟨⟨by decide +kernel, by decide +kernel⟩, List.mem_of_getElem? (i := 1032) (by decide +kernel), List.mem_of_getElem? (i := 1495) (by decide +kernel), List.mem_of_getElem? (i := 1496) (by decide +kernel)⟩
theorem lw_p116 : lw_okq (⟨"BoundedTypesModel", "isBelow", "(II)Z"⟩, 59) := ⟨⟨by decide +kernel, by decide +kernel⟩, List.mem_of_getElem? (i := 1032) (by decide +kernel), List.mem_of_getElem? (i := 1499) (by decide +kernel), List.mem_of_getElem? (i := 1500) (by decide +kernel)⟩
theorem lw_p117 : lw_okq (⟨"BoundedTypesModel", "called", "(II)I"⟩, 59) := ⟨⟨by decide +kernel, by decide +kernel⟩, List.mem_of_getElem? (i := 1032) (by decide +kernel), List.mem_of_getElem? (i := 1503) (by decide +kernel), List.mem_of_getElem? (i := 1504) (by decide +kernel)⟩
theorem lw_p118 : lw_okq (⟨"BoundedTypesModel", "writeAll", "(I)V"⟩, 59) := ⟨⟨by decide +kernel, by decide +kernel⟩, List.mem_of_getElem? (i := 1032) (by decide +kernel), List.mem_of_getElem? (i := 1507) (by decide +kernel), List.mem_of_getElem? (i := 1508) (by decide +kernel)⟩
theorem lw_p119 : lw_okq (⟨"BoundedTypesModel", "write", "(I)V"⟩, 59) := ⟨⟨by decide +kernel, by decide +kernel⟩, List.mem_of_getElem? (i := 1032) (by decide +kernel), List.mem_of_getElem? (i := 1511) (by decide +kernel), List.mem_of_getElem? (i := 1512) (by decide +kernel)⟩
def lw_privs_8 : List (MethodName × Nat) := [(⟨"BoundedTypesModel", "perform", "(II)I"⟩, 59), (⟨"BoundedTypesModel", "named", "(II)I"⟩, 59), (⟨"BoundedTypesModel", "placeOf", "(II)I"⟩, 59), (⟨"BoundedTypesModel", "make", "(III)I"⟩, 59), (⟨"BoundedTypesModel", "isBelow", "(II)Z"⟩, 59), (⟨"BoundedTypesModel", "called", "(II)I"⟩, 59), (⟨"BoundedTypesModel", "writeAll", "(I)V"⟩, 59), (⟨"BoundedTypesModel", "write", "(I)V"⟩, 59)]
theorem lw_r8 : ∀ q ∈ lw_privs_8, lw_okq q := List.forall_mem_cons.mpr ⟨lw_p112, List.forall_mem_cons.mpr ⟨lw_p113, List.forall_mem_cons.mpr ⟨lw_p114, List.forall_mem_cons.mpr ⟨lw_p115, List.forall_mem_cons.mpr ⟨lw_p116, List.forall_mem_cons.mpr ⟨lw_p117, List.forall_mem_cons.mpr ⟨lw_p118, List.forall_mem_cons.mpr ⟨lw_p119, fun _ h => absurd h List.not_mem_nil⟩⟩⟩⟩⟩⟩⟩⟩
def lw_privs : List (MethodName × Nat) := lw_privs_1 ++ (lw_privs_2 ++ (lw_privs_3 ++ (lw_privs_4 ++ (lw_privs_5 ++ (lw_privs_6 ++ (lw_privs_7 ++ (lw_privs_8)))))))
def lw_tbl : List Cond := k2_sels lw_privs ++ tables_1
theorem lw_privs_ok : ∀ q ∈ lw_privs, lw_okq q := by
  show ∀ q ∈ lw_privs_1 ++ (lw_privs_2 ++ (lw_privs_3 ++ (lw_privs_4 ++ (lw_privs_5 ++ (lw_privs_6 ++ (lw_privs_7 ++ (lw_privs_8))))))), lw_okq q
  exact List.forall_mem_append.mpr ⟨lw_r1, List.forall_mem_append.mpr ⟨lw_r2, List.forall_mem_append.mpr ⟨lw_r3, List.forall_mem_append.mpr ⟨lw_r4, List.forall_mem_append.mpr ⟨lw_r5, List.forall_mem_append.mpr ⟨lw_r6, List.forall_mem_append.mpr ⟨lw_r7, lw_r8⟩⟩⟩⟩⟩⟩⟩
end
section
section AHD
abbrev ahC : Type := (Nat → Nat × Nat) × (Nat → Nat → Int32) × (Nat → Nat → Option Nat)
abbrev ahH : Type := Nat × Nat × ahC
abbrev ahM (ρ : Type) : Type := ahH → Option (ρ × Nat × Nat × ahC)
def ah_nx (h : ahH) (n u : Nat) (c : ahC) : ahH := (h.1 + n, h.2.1 + u, c)
def ah_kd (h : ahH) (a : Nat) : Nat := (h.2.2.1 a).1
def ah_ln (h : ahH) (a : Nat) : Nat := (h.2.2.1 a).2
def ah_I (h : ahH) : Nat → Nat → Int32 := h.2.2.2.1
def ah_P (h : ahH) : Nat → Nat → Option Nat := h.2.2.2.2
def ah_u2 {α : Type} (f : Nat → Nat → α) (a k : Nat) (x : α) : Nat → Nat → α := fun b j => if b = a ∧ j = k then x else f b j
def ah_ret {ρ : Type} (r : ρ) : ahM ρ := fun h => some (r, 0, 0, h.2.2)
def ah_no {ρ : Type} : ahM ρ := fun _ => none
def ah_retZ (x : Int32) : ahM Int32 := fun h => if x = 0 ∨ x = 1 then some (x, 0, 0, h.2.2) else none
def ah_rd {α ρ : Type} (g : ahH → Option α) (f : α → ahM ρ) : ahM ρ := fun h => match g h with
  | none => none
  | some a => f a h
def ah_wr {ρ : Type} (g : ahH → Option ahC) (f : ahM ρ) : ahM ρ := fun h => match g h with
  | none => none
  | some c => f (h.1, h.2.1, c)
def ah_bnd {α ρ : Type} (g : ahM α) (f : α → ahM ρ) : ahM ρ := fun h => match g h with
  | none => none
  | some (a, n1, u1, c1) => match f a (ah_nx h n1 u1 c1) with
    | none => none
    | some (b, n2, u2, c2) => some (b, n1 + n2, u1 + u2, c2)
def ah_lp {σ ρ : Type} (b : (σ → ahM ρ) → σ → ahM ρ) : Nat → σ → ahM ρ
  | 0, _ => ah_no
  | n + 1, s => b (ah_lp b n) s
def ah_gI (ci : Nat) (r : Option Nat) (k : Nat) (h : ahH) : Option Int32 := match r with
  | none => none
  | some a => if ah_kd h a = ci + 1 then some (ah_I h a k) else none
def ah_gR (ci : Nat) (r : Option Nat) (k : Nat) (h : ahH) : Option (Option Nat) := match r with
  | none => none
  | some a => if ah_kd h a = ci + 1 then some (ah_P h a k) else none
def ah_pI (ci : Nat) (r : Option Nat) (k : Nat) (x : Int32) (h : ahH) : Option ahC := match r with
  | none => none
  | some a => if ah_kd h a = ci + 1 then some (h.2.2.1, ah_u2 (ah_I h) a k x, ah_P h) else none
def ah_pR (ci : Nat) (r : Option Nat) (k : Nat) (x : Option Nat) (h : ahH) : Option ahC := match r with
  | none => none
  | some a => if ah_kd h a = ci + 1 then some (h.2.2.1, ah_I h, ah_u2 (ah_P h) a k x) else none
def ah_in (i : Int32) (n : Nat) : Bool := !(decide (i < 0) || decide (n ≤ i.toNatClampNeg))
def ah_aI (j : Nat) (r : Option Nat) (i : Int32) (h : ahH) : Option Int32 := match r with
  | none => none
  | some a => if (ah_kd h a = 100 + j ∨ (j = 0 ∧ ah_kd h a = 99)) ∧ ah_in i (ah_ln h a) = true then some (ah_I h a i.toNatClampNeg) else none
def ah_aR (j : Nat) (r : Option Nat) (i : Int32) (h : ahH) : Option (Option Nat) := match r with
  | none => none
  | some a => if ah_kd h a = 100 + j ∧ ah_in i (ah_ln h a) = true then some (ah_P h a i.toNatClampNeg) else none
def ah_sI (j : Nat) (r : Option Nat) (i x : Int32) (h : ahH) : Option ahC := match r with
  | none => none
  | some a => if ah_kd h a = 100 + j ∧ ah_in i (ah_ln h a) = true then some (h.2.2.1, ah_u2 (ah_I h) a i.toNatClampNeg x, ah_P h) else none
def ah_isK (h : ahH) (ci : Nat) (x : Option Nat) : Bool := match x with
  | none => true
  | some b => decide (ah_kd h b = ci + 1)
def ah_sR (j ci : Nat) (r : Option Nat) (i : Int32) (x : Option Nat) (h : ahH) : Option ahC := match r with
  | none => none
  | some a => if ah_kd h a = 100 + j ∧ ah_in i (ah_ln h a) = true ∧ ah_isK h ci x = true then some (h.2.2.1, ah_I h, ah_u2 (ah_P h) a i.toNatClampNeg x) else none
def ah_al (j : Nat) (r : Option Nat) (h : ahH) : Option Int32 := match r with
  | none => none
  | some a => if ah_kd h a = 100 + j ∨ (j = 0 ∧ ah_kd h a = 99) then some (Int32.ofNat (ah_ln h a)) else none
def ah_cc (ci : Nat) (r : Option Nat) (h : ahH) : Option (Option Nat) := match r with
  | none => some none
  | some a => if ah_kd h a = ci + 1 then some (some a) else none
def ah_new (ci n : Nat) : ahM (Option Nat) := fun h => some (some h.1, 1, n, (va_up h.2.2.1 h.1 (ci + 1, n), va_up (ah_I h) h.1 (fun _ => 0), va_up (ah_P h) h.1 (fun _ => none)))
def ah_na (j : Nat) (n : Int32) : ahM (Option Nat) := fun h => if ¬ n < 0 ∧ n.toNatClampNeg ≤ 16777216 then some (some h.1, 1, n.toNatClampNeg, (va_up h.2.2.1 h.1 (100 + j, n.toNatClampNeg), va_up (ah_I h) h.1 (fun _ => 0), va_up (ah_P h) h.1 (fun _ => none))) else none
def ah_cV {ρ : Type} (ci : Nat) (r : Option Nat) (g : Nat → ahM ρ) : ahM ρ := fun h => match r with
  | none => none
  | some a => if ah_kd h a = ci + 1 then g a h else none
def ah_cI {ρ : Type} (r : Option Nat) (g : Nat → ahM ρ) : ahM ρ := fun h => match r with
  | none => none
  | some a => g a h
def ah_fv (b : Bool) (x : Int32) (r : Option Nat) : Value := match b with
  | true => va_rf r
  | false => .int x
theorem ah_rf_cat (r : Option Nat) : (va_rf r).category = 1 := by cases r <;> rfl
theorem ah_in_iff {i : Int32} {n : Nat} : ah_in i n = true ↔ vp_in i n := by
  unfold ah_in vp_in
  simp
end AHD
def pg_T0 : u_T := fun k => match k with
  | 0 => ("BoundedTypes$Types", "classes", "[I", false)
  | 1 => ("BoundedTypes$Types", "parts", "[I", false)
  | 2 => ("BoundedTypes$Types", "held", "[I", false)
  | 3 => ("BoundedTypes$Types", "buckets", "[I", false)
  | 4 => ("BoundedTypes$Types", "next", "[I", false)
  | 5 => ("BoundedTypes$Types", "heads", "[I", true)
  | _ => ("BoundedTypes$Types", "count", "I", false)
def pg_T1 : u_T := fun k => match k with
  | 0 => ("BoundedTypes$Code", "kinds", "[I", true)
  | 1 => ("BoundedTypes$Code", "subjects", "[I", true)
  | 2 => ("BoundedTypes$Code", "amounts", "[I", true)
  | 3 => ("BoundedTypes$Code", "lists", "[I", true)
  | _ => ("BoundedTypes$Code", "count", "I", false)
def pg_T2 : u_T := fun k => match k with
  | 0 => ("BoundedTypes$Bounds", "variables", "[I", true)
  | 1 => ("BoundedTypes$Bounds", "types", "[I", true)
  | _ => ("BoundedTypes$Bounds", "count", "I", false)
def pg_T3 : u_T := fun k => match k with
  | 0 => ("java/util/ArrayList", "elementData", "[Ljava/lang/Object;", false)
  | 1 => ("java/util/ArrayList", "size", "I", false)
  | _ => ("java/util/AbstractList", "modCount", "I", false)
def pg_T4 : u_T := fun k => match k with
  | 0 => ("BoundedTypes$Entry", "name", "I", true)
  | 1 => ("BoundedTypes$Entry", "bounds", "LBoundedTypes$Bounds;", true)
  | 2 => ("BoundedTypes$Entry", "above", "I", true)
  | 3 => ("BoundedTypes$Entry", "aboveClass", "I", true)
  | 4 => ("BoundedTypes$Entry", "members", "Ljava/util/ArrayList;", true)
  | 5 => ("BoundedTypes$Entry", "methods", "[LBoundedTypes$Member;", true)
  | 6 => ("BoundedTypes$Entry", "fieldNames", "[I", true)
  | 7 => ("BoundedTypes$Entry", "fieldTypes", "[I", true)
  | 8 => ("BoundedTypes$Entry", "firstOwnField", "I", false)
  | _ => ("BoundedTypes$Entry", "fieldCount", "I", false)
def pg_T5 : u_T := fun k => match k with
  | 0 => ("BoundedTypes$Rules", "types", "LBoundedTypes$Types;", true)
  | 1 => ("BoundedTypes$Rules", "entries", "[LBoundedTypes$Entry;", true)
  | 2 => ("BoundedTypes$Rules", "scope", "[I", true)
  | _ => ("BoundedTypes$Rules", "standing", "[I", true)
def pg_T6 : u_T := fun k => match k with
  | 0 => ("BoundedTypes$Reader", "text", "[C", true)
  | 1 => ("BoundedTypes$Reader", "types", "LBoundedTypes$Types;", true)
  | 2 => ("BoundedTypes$Reader", "code", "LBoundedTypes$Code;", true)
  | 3 => ("BoundedTypes$Reader", "marks", "[C", true)
  | 4 => ("BoundedTypes$Reader", "places", "[I", true)
  | 5 => ("BoundedTypes$Reader", "now", "I", false)
  | 6 => ("BoundedTypes$Reader", "depth", "I", false)
  | 7 => ("BoundedTypes$Reader", "casts", "[I", true)
  | 8 => ("BoundedTypes$Reader", "castCount", "I", false)
  | _ => ("BoundedTypes$Reader", "inside", "LBoundedTypes$Member;", false)
def pg_T7 : u_T := fun k => match k with
  | 0 => ("BoundedTypes$Expressions", "types", "LBoundedTypes$Types;", true)
  | 1 => ("BoundedTypes$Expressions", "code", "LBoundedTypes$Code;", true)
  | 2 => ("BoundedTypes$Expressions", "rules", "LBoundedTypes$Rules;", true)
  | 3 => ("BoundedTypes$Expressions", "stack", "[I", true)
  | 4 => ("BoundedTypes$Expressions", "top", "I", false)
  | 5 => ("BoundedTypes$Expressions", "awaited", "[I", true)
  | 6 => ("BoundedTypes$Expressions", "self", "I", false)
  | _ => ("BoundedTypes$Expressions", "inside", "LBoundedTypes$Member;", false)
def pg_T8 : u_T := fun k => match k with
  | 0 => ("BoundedTypes$Declarations", "types", "LBoundedTypes$Types;", true)
  | 1 => ("BoundedTypes$Declarations", "rules", "LBoundedTypes$Rules;", true)
  | _ => ("BoundedTypes$Declarations", "expressions", "LBoundedTypes$Expressions;", true)
def pg_T9 : u_T := fun k => match k with
  | 0 => ("BoundedTypes$Machine", "types", "LBoundedTypes$Types;", true)
  | 1 => ("BoundedTypes$Machine", "code", "LBoundedTypes$Code;", true)
  | 2 => ("BoundedTypes$Machine", "rules", "LBoundedTypes$Rules;", true)
  | 3 => ("BoundedTypes$Machine", "cells", "[I", true)
  | 4 => ("BoundedTypes$Machine", "cellCount", "I", false)
  | 5 => ("BoundedTypes$Machine", "stack", "[I", true)
  | 6 => ("BoundedTypes$Machine", "top", "I", false)
  | 7 => ("BoundedTypes$Machine", "frames", "[I", true)
  | 8 => ("BoundedTypes$Machine", "calls", "I", false)
  | 9 => ("BoundedTypes$Machine", "base", "I", false)
  | 10 => ("BoundedTypes$Machine", "place", "I", false)
  | 11 => ("BoundedTypes$Machine", "end", "I", false)
  | 12 => ("BoundedTypes$Machine", "fuel", "I", false)
  | 13 => ("BoundedTypes$Machine", "text", "[C", true)
  | 14 => ("BoundedTypes$Machine", "textLength", "I", false)
  | 15 => ("BoundedTypes$Machine", "openValues", "[I", true)
  | _ => ("BoundedTypes$Machine", "openFields", "[I", true)
def pg_T10 : u_T := fun k => match k with
  | 0 => ("BoundedTypes", "typed", "[C", true)
  | 1 => ("BoundedTypes", "typedCount", "I", false)
  | 2 => ("BoundedTypes", "types", "LBoundedTypes$Types;", true)
  | 3 => ("BoundedTypes", "code", "LBoundedTypes$Code;", true)
  | 4 => ("BoundedTypes", "rules", "LBoundedTypes$Rules;", true)
  | 5 => ("BoundedTypes", "reader", "LBoundedTypes$Reader;", true)
  | 6 => ("BoundedTypes", "expressions", "LBoundedTypes$Expressions;", true)
  | 7 => ("BoundedTypes", "declarations", "LBoundedTypes$Declarations;", true)
  | _ => ("BoundedTypes", "machine", "LBoundedTypes$Machine;", true)
def pg_T11 : u_T := fun k => match k with
  | 0 => ("BoundedTypes$Member", "name", "I", true)
  | 1 => ("BoundedTypes$Member", "result", "I", true)
  | 2 => ("BoundedTypes$Member", "isMethod", "Z", false)
  | 3 => ("BoundedTypes$Member", "bounds", "LBoundedTypes$Bounds;", true)
  | 4 => ("BoundedTypes$Member", "parameterNames", "[I", true)
  | 5 => ("BoundedTypes$Member", "parameterTypes", "[I", true)
  | 6 => ("BoundedTypes$Member", "parameterCount", "I", false)
  | 7 => ("BoundedTypes$Member", "codeStart", "I", false)
  | _ => ("BoundedTypes$Member", "codeEnd", "I", false)
def pg_T12 : u_T := fun k => match k with
  | 0 => ("BoundedTypesModel", "chars", "[I", true)
  | 1 => ("BoundedTypesModel", "typed", "I", false)
  | 2 => ("BoundedTypesModel", "size", "I", false)
  | 3 => ("BoundedTypesModel", "at", "I", false)
  | 4 => ("BoundedTypesModel", "depth", "I", false)
  | 5 => ("BoundedTypesModel", "fault", "I", false)
  | 6 => ("BoundedTypesModel", "wrong", "I", false)
  | 7 => ("BoundedTypesModel", "nodes", "I", false)
  | 8 => ("BoundedTypesModel", "code", "[I", true)
  | 9 => ("BoundedTypesModel", "part", "[I", true)
  | 10 => ("BoundedTypesModel", "work", "[I", true)
  | 11 => ("BoundedTypesModel", "reached", "[I", true)
  | 12 => ("BoundedTypesModel", "held", "[I", true)
  | 13 => ("BoundedTypesModel", "map", "[I", true)
  | 14 => ("BoundedTypesModel", "bound", "[I", true)
  | 15 => ("BoundedTypesModel", "there", "[I", true)
  | 16 => ("BoundedTypesModel", "vars", "[I", true)
  | 17 => ("BoundedTypesModel", "letter", "[I", true)
  | 18 => ("BoundedTypesModel", "limit", "[I", true)
  | 19 => ("BoundedTypesModel", "below", "[I", true)
  | 20 => ("BoundedTypesModel", "behind", "I", false)
  | 21 => ("BoundedTypesModel", "newLetter", "[I", true)
  | 22 => ("BoundedTypesModel", "newLimit", "[I", true)
  | 23 => ("BoundedTypesModel", "fieldCount", "I", false)
  | 24 => ("BoundedTypesModel", "fieldClass", "[I", true)
  | 25 => ("BoundedTypesModel", "fieldName", "[I", true)
  | 26 => ("BoundedTypesModel", "fieldType", "[I", true)
  | 27 => ("BoundedTypesModel", "methodCount", "I", false)
  | 28 => ("BoundedTypesModel", "owner", "[I", true)
  | 29 => ("BoundedTypesModel", "methodName", "[I", true)
  | 30 => ("BoundedTypesModel", "methodVars", "[I", true)
  | 31 => ("BoundedTypesModel", "methodLetter", "[I", true)
  | 32 => ("BoundedTypesModel", "methodLimit", "[I", true)
  | 33 => ("BoundedTypesModel", "parameters", "[I", true)
  | 34 => ("BoundedTypesModel", "parameterName", "[I", true)
  | 35 => ("BoundedTypesModel", "parameterType", "[I", true)
  | 36 => ("BoundedTypesModel", "result", "[I", true)
  | 37 => ("BoundedTypesModel", "from", "[I", true)
  | 38 => ("BoundedTypesModel", "to", "[I", true)
  | 39 => ("BoundedTypesModel", "steps", "I", false)
  | 40 => ("BoundedTypesModel", "step", "[J", true)
  | 41 => ("BoundedTypesModel", "members", "I", false)
  | 42 => ("BoundedTypesModel", "member", "[I", true)
  | 43 => ("BoundedTypesModel", "kind", "[I", true)
  | 44 => ("BoundedTypesModel", "about", "[I", true)
  | 45 => ("BoundedTypesModel", "many", "[I", true)
  | 46 => ("BoundedTypesModel", "types", "[I", true)
  | 47 => ("BoundedTypesModel", "given", "[I", true)
  | 48 => ("BoundedTypesModel", "values", "[I", true)
  | 49 => ("BoundedTypesModel", "heapSize", "I", false)
  | 50 => ("BoundedTypesModel", "heap", "[I", true)
  | 51 => ("BoundedTypesModel", "callMethod", "[I", true)
  | 52 => ("BoundedTypesModel", "callStep", "[I", true)
  | 53 => ("BoundedTypesModel", "callThis", "[I", true)
  | 54 => ("BoundedTypesModel", "callGiven", "[I", true)
  | 55 => ("BoundedTypesModel", "text", "[I", true)
  | 56 => ("BoundedTypesModel", "textSize", "I", false)
  | 57 => ("BoundedTypesModel", "fuelLeft", "I", false)
  | _ => ("BoundedTypesModel", "foundIn", "I", false)
def pg_cls : List vw_C := [("BoundedTypes$Types", pg_T0, 7), ("BoundedTypes$Code", pg_T1, 5), ("BoundedTypes$Bounds", pg_T2, 3), ("java/util/ArrayList", pg_T3, 3), ("BoundedTypes$Entry", pg_T4, 10), ("BoundedTypes$Rules", pg_T5, 4), ("BoundedTypes$Reader", pg_T6, 10), ("BoundedTypes$Expressions", pg_T7, 8), ("BoundedTypes$Declarations", pg_T8, 3), ("BoundedTypes$Machine", pg_T9, 17), ("BoundedTypes", pg_T10, 9), ("BoundedTypes$Member", pg_T11, 9), ("BoundedTypesModel", pg_T12, 59)]
def pg_fR : List (List Bool) := [[true, true, true, true, true, true, false], [true, true, true, true, false], [true, true, false], [true, false, false], [false, true, false, false, true, true, true, true, false, false], [true, true, true, true], [true, true, true, true, true, false, false, true, false, true], [true, true, true, true, false, true, false, true], [true, true, true], [true, true, true, true, false, true, false, true, false, false, false, false, false, true, false, true, true], [true, false, true, true, true, true, true, true, true], [false, false, false, true, true, true, false, false, false], [true, false, false, false, false, false, false, false, true, true, true, true, true, true, true, true, true, true, true, true, false, true, true, false, true, true, true, false, true, true, true, true, true, true, true, true, true, true, true, false, true, false, true, true, true, true, true, true, true, false, true, true, true, true, true, true, false, false, false]]
def pg_ty : List (List FieldType) := [[.array .int, .array .int, .array .int, .array .int, .array .int, .array .int, .int], [.array .int, .array .int, .array .int, .array .int, .int], [.array .int, .array .int, .int], [.array (.object "java/lang/Object"), .int, .int], [.int, .object "BoundedTypes$Bounds", .int, .int, .object "java/util/ArrayList", .array (.object "BoundedTypes$Member"), .array .int, .array .int, .int, .int], [.object "BoundedTypes$Types", .array (.object "BoundedTypes$Entry"), .array .int, .array .int], [.array .char, .object "BoundedTypes$Types", .object "BoundedTypes$Code", .array .char, .array .int, .int, .int, .array .int, .int, .object "BoundedTypes$Member"], [.object "BoundedTypes$Types", .object "BoundedTypes$Code", .object "BoundedTypes$Rules", .array .int, .int, .array .int, .int, .object "BoundedTypes$Member"], [.object "BoundedTypes$Types", .object "BoundedTypes$Rules", .object "BoundedTypes$Expressions"], [.object "BoundedTypes$Types", .object "BoundedTypes$Code", .object "BoundedTypes$Rules", .array .int, .int, .array .int, .int, .array .int, .int, .int, .int, .int, .int, .array .char, .int, .array .int, .array .int], [.array .char, .int, .object "BoundedTypes$Types", .object "BoundedTypes$Code", .object "BoundedTypes$Rules", .object "BoundedTypes$Reader", .object "BoundedTypes$Expressions", .object "BoundedTypes$Declarations", .object "BoundedTypes$Machine"], [.int, .int, .boolean, .object "BoundedTypes$Bounds", .array .int, .array .int, .int, .int, .int], [.array .int, .int, .int, .int, .int, .int, .int, .int, .array .int, .array .int, .array .int, .array .int, .array .int, .array .int, .array .int, .array .int, .array .int, .array .int, .array .int, .array .int, .int, .array .int, .array .int, .int, .array .int, .array .int, .array .int, .int, .array .int, .array .int, .array .int, .array .int, .array .int, .array .int, .array .int, .array .int, .array .int, .array .int, .array .int, .int, .array .long, .int, .array .int, .array .int, .array .int, .array .int, .array .int, .array .int, .array .int, .int, .array .int, .array .int, .array .int, .array .int, .array .int, .array .int, .int, .int, .int]]
def pg_aty : List FieldType := [.int, .char, .object "BoundedTypes$Member", .object "BoundedTypes$Entry", .long]
def pg_aR : List Bool := [false, false, true, true, false]
theorem pg_aty_len : pg_aty.length ≤ 100 := by decide
def ah_nsh : Cond → Bool
  | .fieldLinkNest .. => true
  | .methodLinkNest .. => true
  | .castable .. => true
  | .arrayOver (.object _) => true
  | _ => false
def pg_T : List Cond := lw_tbl.filter goodWord
def pg_N : List Cond := lw_tbl.filter ah_nsh
theorem pg_T_ok : ∀ w ∈ pg_T, (w.onTables && w.keeps) = true ∨ ∃ ty, w = .arrayClass ty := fun w hw => good_of_word (List.mem_filter.mp hw).2
theorem pg_N_ok : ∀ w ∈ pg_N, ah_nsh w = true := fun w hw => (List.mem_filter.mp hw).2
theorem pg_inT {w : Cond} (h : w ∈ tables_1) (hg : goodWord w = true) : w ∈ pg_T := List.mem_filter.mpr ⟨List.mem_append_right _ h, hg⟩
theorem pg_inN {w : Cond} (h : w ∈ tables_1) (hg : ah_nsh w = true) : w ∈ pg_N := List.mem_filter.mpr ⟨List.mem_append_right _ h, hg⟩
theorem pg_inS {q : MethodName × Nat} (h : q ∈ lw_privs) : Cond.selects q.1.cls q.1 q.1 ∈ pg_T := List.mem_filter.mpr ⟨List.mem_append_left _ (List.mem_map.mpr ⟨q, h, rfl⟩), rfl⟩
theorem pg_t0 {w : Cond} (h : w ∈ tables_1_1) (hg : goodWord w = true) : w ∈ pg_T := pg_inT (List.mem_append_left _ h) hg
theorem pg_n0 {w : Cond} (h : w ∈ tables_1_1) (hg : ah_nsh w = true) : w ∈ pg_N := pg_inN (List.mem_append_left _ h) hg
theorem pg_t1 {w : Cond} (h : w ∈ tables_1_2) (hg : goodWord w = true) : w ∈ pg_T := pg_inT (List.mem_append_right _ (List.mem_append_left _ h)) hg
theorem pg_n1 {w : Cond} (h : w ∈ tables_1_2) (hg : ah_nsh w = true) : w ∈ pg_N := pg_inN (List.mem_append_right _ (List.mem_append_left _ h)) hg
theorem pg_t2 {w : Cond} (h : w ∈ tables_1_3) (hg : goodWord w = true) : w ∈ pg_T := pg_inT (List.mem_append_right _ (List.mem_append_right _ (List.mem_append_left _ h))) hg
theorem pg_n2 {w : Cond} (h : w ∈ tables_1_3) (hg : ah_nsh w = true) : w ∈ pg_N := pg_inN (List.mem_append_right _ (List.mem_append_right _ (List.mem_append_left _ h))) hg
theorem pg_t3 {w : Cond} (h : w ∈ tables_1_4) (hg : goodWord w = true) : w ∈ pg_T := pg_inT (List.mem_append_right _ (List.mem_append_right _ (List.mem_append_right _ (List.mem_append_left _ h)))) hg
theorem pg_n3 {w : Cond} (h : w ∈ tables_1_4) (hg : ah_nsh w = true) : w ∈ pg_N := pg_inN (List.mem_append_right _ (List.mem_append_right _ (List.mem_append_right _ (List.mem_append_left _ h)))) hg
theorem pg_t4 {w : Cond} (h : w ∈ tables_1_5) (hg : goodWord w = true) : w ∈ pg_T := pg_inT (List.mem_append_right _ (List.mem_append_right _ (List.mem_append_right _ (List.mem_append_right _ (List.mem_append_left _ h))))) hg
theorem pg_n4 {w : Cond} (h : w ∈ tables_1_5) (hg : ah_nsh w = true) : w ∈ pg_N := pg_inN (List.mem_append_right _ (List.mem_append_right _ (List.mem_append_right _ (List.mem_append_right _ (List.mem_append_left _ h))))) hg
theorem pg_t5 {w : Cond} (h : w ∈ tables_1_6) (hg : goodWord w = true) : w ∈ pg_T := pg_inT (List.mem_append_right _ (List.mem_append_right _ (List.mem_append_right _ (List.mem_append_right _ (List.mem_append_right _ (List.mem_append_left _ h)))))) hg
theorem pg_n5 {w : Cond} (h : w ∈ tables_1_6) (hg : ah_nsh w = true) : w ∈ pg_N := pg_inN (List.mem_append_right _ (List.mem_append_right _ (List.mem_append_right _ (List.mem_append_right _ (List.mem_append_right _ (List.mem_append_left _ h)))))) hg
theorem pg_t6 {w : Cond} (h : w ∈ tables_1_7) (hg : goodWord w = true) : w ∈ pg_T := pg_inT (List.mem_append_right _ (List.mem_append_right _ (List.mem_append_right _ (List.mem_append_right _ (List.mem_append_right _ (List.mem_append_right _ h)))))) hg
theorem pg_n6 {w : Cond} (h : w ∈ tables_1_7) (hg : ah_nsh w = true) : w ∈ pg_N := pg_inN (List.mem_append_right _ (List.mem_append_right _ (List.mem_append_right _ (List.mem_append_right _ (List.mem_append_right _ (List.mem_append_right _ h)))))) hg
theorem pg_s0 {q : MethodName × Nat} (h : q ∈ lw_privs_1) : Cond.selects q.1.cls q.1 q.1 ∈ pg_T := pg_inS (List.mem_append_left _ h)
theorem pg_s1 {q : MethodName × Nat} (h : q ∈ lw_privs_2) : Cond.selects q.1.cls q.1 q.1 ∈ pg_T := pg_inS (List.mem_append_right _ (List.mem_append_left _ h))
theorem pg_s2 {q : MethodName × Nat} (h : q ∈ lw_privs_3) : Cond.selects q.1.cls q.1 q.1 ∈ pg_T := pg_inS (List.mem_append_right _ (List.mem_append_right _ (List.mem_append_left _ h)))
theorem pg_s3 {q : MethodName × Nat} (h : q ∈ lw_privs_4) : Cond.selects q.1.cls q.1 q.1 ∈ pg_T := pg_inS (List.mem_append_right _ (List.mem_append_right _ (List.mem_append_right _ (List.mem_append_left _ h))))
theorem pg_s4 {q : MethodName × Nat} (h : q ∈ lw_privs_5) : Cond.selects q.1.cls q.1 q.1 ∈ pg_T := pg_inS (List.mem_append_right _ (List.mem_append_right _ (List.mem_append_right _ (List.mem_append_right _ (List.mem_append_left _ h)))))
theorem pg_s5 {q : MethodName × Nat} (h : q ∈ lw_privs_6) : Cond.selects q.1.cls q.1 q.1 ∈ pg_T := pg_inS (List.mem_append_right _ (List.mem_append_right _ (List.mem_append_right _ (List.mem_append_right _ (List.mem_append_right _ (List.mem_append_left _ h))))))
theorem pg_s6 {q : MethodName × Nat} (h : q ∈ lw_privs_7) : Cond.selects q.1.cls q.1 q.1 ∈ pg_T := pg_inS (List.mem_append_right _ (List.mem_append_right _ (List.mem_append_right _ (List.mem_append_right _ (List.mem_append_right _ (List.mem_append_right _ (List.mem_append_left _ h)))))))
theorem pg_s7 {q : MethodName × Nat} (h : q ∈ lw_privs_8) : Cond.selects q.1.cls q.1 q.1 ∈ pg_T := pg_inS (List.mem_append_right _ (List.mem_append_right _ (List.mem_append_right _ (List.mem_append_right _ (List.mem_append_right _ (List.mem_append_right _ (List.mem_append_right _ h)))))))
end
section
section AHR
abbrev ahE : Type := (Nat → ClassId) × (Nat → Nat → Nat) × (Nat → ClassId) × Nat × Heap × Nat × Nat × (Nat → Int32) × Nat
abbrev ae_C (E : ahE) : Nat → ClassId := E.1
abbrev ae_I (E : ahE) : Nat → Nat → Nat := E.2.1
abbrev ae_A (E : ahE) : Nat → ClassId := E.2.2.1
abbrev ae_B (E : ahE) : Nat := E.2.2.2.1
abbrev ae_H (E : ahE) : Heap := E.2.2.2.2.1
abbrev ae_b (E : ahE) : Nat := E.2.2.2.2.2.1
abbrev ae_L (E : ahE) : Nat := E.2.2.2.2.2.2.1
abbrev ae_x (E : ahE) : Nat → Int32 := E.2.2.2.2.2.2.2.1
abbrev ae_e (E : ahE) : Nat := E.2.2.2.2.2.2.2.2
def ah_isR (ci k : Nat) : Bool := (pg_fR.getD ci []).getD k false
def ah_aRf (j : Nat) : Bool := pg_aR.getD j false
def ah_ty (ci k : Nat) : FieldType := (pg_ty.getD ci []).getD k .int
def ah_ok (E : ahE) (h : ahH) (H : Heap) (a : Nat) : Prop :=
  (∀ (ci : Nat) (q : vw_C), ah_kd h a = ci + 1 → pg_cls[ci]? = some q → t_OB a (ae_C E ci) q.2.2 (ae_I E ci) H (fun k => ah_fv (ah_isR ci k) (ah_I h a k) (ah_P h a k))) ∧
  (∀ (j : Nat), ah_kd h a = 100 + j → j < 100 → H[a]? = some (arrV (ae_A E j) (ah_ln h a) (fun k => ah_fv (ah_aRf j) (ah_I h a k) (ah_P h a k)))) ∧
  (ah_kd h a = 99 → a = ae_b E ∧ ah_ln h a = ae_L E ∧ ∀ j, j < ae_L E → ah_I h a j = ae_x E j) ∧
  (∀ (j : Nat), ah_kd h a = 200 + j → ∃ f : Nat → Int64, H[a]? = some (arrV (ae_A E j) (ah_ln h a) (fun k => .long (f k))))
def ah_Rel (E : ahE) (h : ahH) (H : Heap) : Prop :=
  H.size = h.1 ∧ (ae_B E ≤ h.1 ∧ 0 < ae_B E ∧ ah_P h 0 0 = some (ae_e E)) ∧ (∀ q : Nat, q < ae_B E → H[q]? = (ae_H E)[q]?) ∧ (∀ a : Nat, 0 < ah_kd h a → ah_kd h a ≠ 99 → ae_B E ≤ a ∧ a < h.1) ∧ ∀ a : Nat, ah_ok E h H a
theorem ah_nw_warm {w : Cond} (h : ah_nsh w = true) {s U : State} (hW : s.WarmedH U.vm) (hZ : va_Nw w s) : va_Nw w U := by
  unfold ah_nsh at h
  split at h
  · exact va_Nw.warmF hW hZ
  · exact va_Nw.warmM hW hZ
  · exact va_Nw.warmC hW hZ
  · exact va_AO.moved hW.alike hZ
  · cases h
theorem ah_nw_same {w : Cond} (h : ah_nsh w = true) {u U : State} (hvm : u.vm = U.vm) (hZ : va_Nw w u) : va_Nw w U := by
  unfold ah_nsh at h
  split at h
  · exact va_Nw.same rfl hvm hZ
  · exact va_Nw.same rfl hvm hZ
  · exact va_Nw.same rfl hvm hZ
  · exact va_AO.moved (by rw [hvm]; exact Vm.Alike.refl _) hZ
  · cases h
def ah_K (E : ahE) (U : State) : Prop :=
  (∀ (ci : Nat) (q : vw_C), pg_cls[ci]? = some q → u_Kn U q.1 q.2.1 q.2.2 (ae_C E ci) (ae_I E ci)) ∧
  (∀ (j : Nat) (ty : FieldType), pg_aty[j]? = some ty → ArrOfT U (ae_A E j) ty ∧ va_RA U (ae_A E j) ty) ∧
  (∀ w ∈ pg_N, va_Nw w U) ∧ va_X (ae_b E) (ae_L E) (ae_x E) U (ae_H E) ∧ ae_b E < ae_B E ∧ va_Z "java/util/ArrayList" "DEFAULTCAPACITY_EMPTY_ELEMENTDATA" "[Ljava/lang/Object;" (.ref (ae_e E)) (fun q => ae_B E ≤ q) U (ae_H E)
theorem ah_K.warm {E : ahE} {s U : State} (hW : s.WarmedH U.vm) (h : ah_K E s) : ah_K E U :=
  ⟨fun ci q hq => u_Kn_moved hW.alike (h.1 ci q hq), fun j ty hj => ⟨arrOfT_moved hW.alike (h.2.1 j ty hj).1, (h.2.1 j ty hj).2.moved hW.alike⟩, fun w hw => ah_nw_warm (pg_N_ok w hw) hW (h.2.2.1 w hw), h.2.2.2.1.moved hW.alike, h.2.2.2.2.1, h.2.2.2.2.2.moved hW.alike⟩
theorem ah_K.same {E : ahE} {u U : State} (hvm : u.vm = U.vm) (h : ah_K E u) : ah_K E U := by
  have ha : u.vm.Alike U.vm := by rw [hvm]; exact Vm.Alike.refl _
  exact ⟨fun ci q hq => u_Kn_moved ha (h.1 ci q hq), fun j ty hj => ⟨arrOfT_moved ha (h.2.1 j ty hj).1, (h.2.1 j ty hj).2.moved ha⟩, fun w hw => ah_nw_same (pg_N_ok w hw) hvm (h.2.2.1 w hw), h.2.2.2.1.moved ha, h.2.2.2.2.1, h.2.2.2.2.2.moved ha⟩
def ah_PC (ci : Nat) (q : vw_C) : Prop :=
  ci < 98 ∧ (∀ k, k < q.2.2 → u_lay q.1 q.2.1 k ∈ pg_T) ∧ (∀ k, k < q.2.2 → parseFieldDescriptor (q.2.1 k).2.2.1 = some (ah_ty ci k)) ∧
  (∀ a, a < q.2.2 → ∀ b, b < q.2.2 → a ≠ b → (q.2.1 a).2.1 ≠ (q.2.1 b).2.1) ∧ ∀ k, k < q.2.2 → defaultValue (ah_ty ci k) = ah_fv (ah_isR ci k) 0 none
theorem ah_Rel.obj {E : ahE} {h : ahH} {H H1 : Heap} (hR : ah_Rel E h H) {a ci : Nat} {q : vw_C} (hci : ci < 98) (hk : ah_kd h a = ci + 1) (hq : pg_cls[ci]? = some q) {I1 : Nat → Nat → Int32} {P1 : Nat → Nat → Option Nat}
    (hz : H1.size = H.size) (ho : ∀ b : Nat, b ≠ a → H1[b]? = H[b]?) (hI : ∀ b, b ≠ a → I1 b = ah_I h b) (hP : ∀ b, b ≠ a → P1 b = ah_P h b)
    (hn : t_OB a (ae_C E ci) q.2.2 (ae_I E ci) H1 (fun k => ah_fv (ah_isR ci k) (I1 a k) (P1 a k))) : ah_Rel E (h.1, h.2.1, h.2.2.1, I1, P1) H1 := by
  obtain ⟨r1, ⟨r2, r2a, r2b⟩, r3, r4, r5⟩ := hR
  have hin := r4 a (by omega) (by omega)
  refine ⟨hz.trans r1, ⟨r2, r2a, by show P1 0 0 = _; rw [hP 0 (by omega)]; exact r2b⟩, fun b hb => ?_, r4, fun b => ?_⟩
  · rw [ho b (by omega)]
    exact r3 b hb
  · by_cases hb : b = a
    · subst hb
      refine ⟨fun ci' q' h1 h2 => ?_, fun j h1 _ => ?_, fun h1 => ?_, fun j h1 => ?_⟩
      · have e1 : ah_kd h b = ci' + 1 := h1
        have e2 : ci' = ci := by omega
        subst e2
        cases hq.symm.trans h2
        exact hn
      · have e1 : ah_kd h b = 100 + j := h1
        omega
      · have e1 : ah_kd h b = 99 := h1
        omega
      · have e1 : ah_kd h b = 200 + j := h1
        omega
    · obtain ⟨o1, o2, o3, o4⟩ := r5 b
      refine ⟨fun ci' q' h1 h2 => ?_, fun j h1 hj => ?_, fun h1 => ?_, fun j h1 => ?_⟩
      · refine ((o1 ci' q' h1 h2).kept (ho b hb)).to (fun k _ => ?_)
        show ah_fv _ (ah_I h b k) (ah_P h b k) = ah_fv _ (I1 b k) (P1 b k)
        rw [hI b hb, hP b hb]
      · rw [ho b hb, o2 j h1 hj]
        show some (arrV _ (ah_ln h b) (fun k => ah_fv _ (ah_I h b k) (ah_P h b k))) = some (arrV _ (ah_ln h b) (fun k => ah_fv _ (I1 b k) (P1 b k)))
        rw [hI b hb, hP b hb]
      · obtain ⟨g1, g2, g3⟩ := o3 h1
        refine ⟨g1, g2, fun j hj => ?_⟩
        show I1 b j = _
        rw [hI b hb]
        exact g3 j hj
      · rw [ho b hb]
        exact o4 j h1
theorem ah_Rel.arr {E : ahE} {h : ahH} {H H1 : Heap} (hR : ah_Rel E h H) {a j : Nat} (hk : ah_kd h a = 100 + j) (hj1 : j < 100) {I1 : Nat → Nat → Int32} {P1 : Nat → Nat → Option Nat}
    (hz : H1.size = H.size) (ho : ∀ b : Nat, b ≠ a → H1[b]? = H[b]?) (hI : ∀ b, b ≠ a → I1 b = ah_I h b) (hP : ∀ b, b ≠ a → P1 b = ah_P h b)
    (hn : H1[a]? = some (arrV (ae_A E j) (ah_ln h a) (fun k => ah_fv (ah_aRf j) (I1 a k) (P1 a k)))) (hc : ∀ ci q, pg_cls[ci]? = some q → ci < 98) : ah_Rel E (h.1, h.2.1, h.2.2.1, I1, P1) H1 := by
  obtain ⟨r1, ⟨r2, r2a, r2b⟩, r3, r4, r5⟩ := hR
  have hin := r4 a (by omega) (by omega)
  refine ⟨hz.trans r1, ⟨r2, r2a, by show P1 0 0 = _; rw [hP 0 (by omega)]; exact r2b⟩, fun b hb => ?_, r4, fun b => ?_⟩
  · rw [ho b (by omega)]
    exact r3 b hb
  · by_cases hb : b = a
    · subst hb
      refine ⟨fun ci' q' h1 h2 => ?_, fun j' h1 _ => ?_, fun h1 => ?_, fun j' h1 => ?_⟩
      · have e1 : ah_kd h b = ci' + 1 := h1
        have := hc ci' q' h2
        omega
      · have e1 : ah_kd h b = 100 + j' := h1
        have e2 : j' = j := by omega
        subst e2
        exact hn
      · have e1 : ah_kd h b = 99 := h1
        omega
      · have e1 : ah_kd h b = 200 + j' := h1
        omega
    · obtain ⟨o1, o2, o3, o4⟩ := r5 b
      refine ⟨fun ci' q' h1 h2 => ?_, fun j h1 hj => ?_, fun h1 => ?_, fun j h1 => ?_⟩
      · refine ((o1 ci' q' h1 h2).kept (ho b hb)).to (fun k _ => ?_)
        show ah_fv _ (ah_I h b k) (ah_P h b k) = ah_fv _ (I1 b k) (P1 b k)
        rw [hI b hb, hP b hb]
      · rw [ho b hb, o2 j h1 hj]
        show some (arrV _ (ah_ln h b) (fun k => ah_fv _ (ah_I h b k) (ah_P h b k))) = some (arrV _ (ah_ln h b) (fun k => ah_fv _ (I1 b k) (P1 b k)))
        rw [hI b hb, hP b hb]
      · obtain ⟨g1, g2, g3⟩ := o3 h1
        refine ⟨g1, g2, fun j hj => ?_⟩
        show I1 b j = _
        rw [hI b hb]
        exact g3 j hj
      · rw [ho b hb]
        exact o4 j h1
theorem ah_Rel.born {E : ahE} {h : ahH} {H H1 : Heap} (hR : ah_Rel E h H) {kd n u : Nat} {iv : Nat → Int32} {pv : Nat → Option Nat} (h99 : kd ≠ 99)
    (hz : H1.size = h.1 + 1) (ho : ∀ b : Nat, b < h.1 → H1[b]? = H[b]?)
    (h1 : ∀ (ci : Nat) (q : vw_C), kd = ci + 1 → pg_cls[ci]? = some q → t_OB h.1 (ae_C E ci) q.2.2 (ae_I E ci) H1 (fun k => ah_fv (ah_isR ci k) (iv k) (pv k)))
    (h2 : ∀ (j : Nat), kd = 100 + j → j < 100 → H1[h.1]? = some (arrV (ae_A E j) n (fun k => ah_fv (ah_aRf j) (iv k) (pv k)))) (h3 : ∀ (j : Nat), kd = 200 + j → ∃ f : Nat → Int64, H1[h.1]? = some (arrV (ae_A E j) n (fun k => .long (f k)))) :
    ah_Rel E (ah_nx h 1 u (va_up h.2.2.1 h.1 (kd, n), va_up (ah_I h) h.1 iv, va_up (ah_P h) h.1 pv)) H1 := by
  obtain ⟨r1, ⟨r2, r2a, r2b⟩, r3, r4, r5⟩ := hR
  refine ⟨hz, ⟨?_, r2a, ?_⟩, fun b hb => ?_, fun b g1 g2 => ?_, fun b => ?_⟩
  · show ae_B E ≤ h.1 + 1
    omega
  · show va_up (ah_P h) h.1 pv 0 0 = _
    rw [va_up_ne _ _ (by omega)]
    exact r2b
  · rw [ho b (by omega)]
    exact r3 b hb
  · show ae_B E ≤ b ∧ b < h.1 + 1
    by_cases hb : b = h.1
    · subst hb
      exact ⟨r2, by omega⟩
    · have e : ah_kd (ah_nx h 1 u (va_up h.2.2.1 h.1 (kd, n), va_up (ah_I h) h.1 iv, va_up (ah_P h) h.1 pv)) b = ah_kd h b := by
        show (va_up h.2.2.1 h.1 (kd, n) b).1 = _
        rw [va_up_ne _ _ hb]
        rfl
      rw [e] at g1 g2
      have := r4 b g1 g2
      omega
  · by_cases hb : b = h.1
    · subst hb
      have e : (va_up h.2.2.1 h.1 (kd, n) h.1) = (kd, n) := va_up_self _ _ _
      refine ⟨fun ci q g1 g2 => ?_, fun j g1 hj => ?_, fun g1 => ?_, fun j g1 => ?_⟩
      · have e1 : kd = ci + 1 := by
          have g1' : (va_up h.2.2.1 h.1 (kd, n) h.1).1 = ci + 1 := g1
          rw [e] at g1'
          exact g1'
        refine (h1 ci q e1 g2).to (fun k _ => ?_)
        show _ = ah_fv _ (va_up (ah_I h) h.1 iv h.1 k) (va_up (ah_P h) h.1 pv h.1 k)
        rw [va_up_self, va_up_self]
      · have e1 : kd = 100 + j := by
          have g1' : (va_up h.2.2.1 h.1 (kd, n) h.1).1 = 100 + j := g1
          rw [e] at g1'
          exact g1'
        rw [h2 j e1 hj]
        show _ = some (arrV _ (va_up h.2.2.1 h.1 (kd, n) h.1).2 (fun k => ah_fv _ (va_up (ah_I h) h.1 iv h.1 k) (va_up (ah_P h) h.1 pv h.1 k)))
        rw [va_up_self, va_up_self, va_up_self]
      · have g1' : (va_up h.2.2.1 h.1 (kd, n) h.1).1 = 99 := g1
        rw [e] at g1'
        exact absurd g1' h99
      · have e1 : kd = 200 + j := by
          have g1' : (va_up h.2.2.1 h.1 (kd, n) h.1).1 = 200 + j := g1
          rw [e] at g1'
          exact g1'
        obtain ⟨f, hf⟩ := h3 j e1
        refine ⟨f, ?_⟩
        rw [hf]
        show _ = some (arrV _ (va_up h.2.2.1 h.1 (kd, n) h.1).2 _)
        rw [va_up_self]
    · obtain ⟨o1, o2, o3, o4⟩ := r5 b
      have e : (va_up h.2.2.1 h.1 (kd, n) b) = h.2.2.1 b := va_up_ne _ _ hb
      have eI : va_up (ah_I h) h.1 iv b = ah_I h b := va_up_ne _ _ hb
      have eP : va_up (ah_P h) h.1 pv b = ah_P h b := va_up_ne _ _ hb
      have hlt : 0 < ah_kd h b → ah_kd h b ≠ 99 → b < h.1 := fun g1 g2 => (r4 b g1 g2).2
      refine ⟨fun ci q g1 g2 => ?_, fun j g1 hj => ?_, fun g1 => ?_, fun j g1 => ?_⟩
      · have g1' : ah_kd h b = ci + 1 := by
          have g : (va_up h.2.2.1 h.1 (kd, n) b).1 = ci + 1 := g1
          rw [e] at g
          exact g
        obtain ⟨cell, q1, q2⟩ := o1 ci q g1' g2
        have hbl : b < H.size := (Array.getElem?_eq_some_iff.mp q1).1
        refine (t_OB.kept (H := H) ⟨cell, q1, q2⟩ (ho b (by omega))).to (fun k _ => ?_)
        show _ = ah_fv _ (va_up (ah_I h) h.1 iv b k) (va_up (ah_P h) h.1 pv b k)
        rw [eI, eP]
      · have g1' : ah_kd h b = 100 + j := by
          have g : (va_up h.2.2.1 h.1 (kd, n) b).1 = 100 + j := g1
          rw [e] at g
          exact g
        rw [ho b (hlt (by omega) (by omega)), o2 j g1' hj]
        show some (arrV _ (h.2.2.1 b).2 (fun k => ah_fv _ (ah_I h b k) (ah_P h b k))) = some (arrV _ (va_up h.2.2.1 h.1 (kd, n) b).2 (fun k => ah_fv _ (va_up (ah_I h) h.1 iv b k) (va_up (ah_P h) h.1 pv b k)))
        rw [e, eI, eP]
      · have g1' : ah_kd h b = 99 := by
          have g : (va_up h.2.2.1 h.1 (kd, n) b).1 = 99 := g1
          rw [e] at g
          exact g
        obtain ⟨k1, k2, k3⟩ := o3 g1'
        refine ⟨k1, ?_, fun j hj => ?_⟩
        · show (va_up h.2.2.1 h.1 (kd, n) b).2 = _
          rw [e]
          exact k2
        · show va_up (ah_I h) h.1 iv b j = _
          rw [eI]
          exact k3 j hj
      · have g1' : ah_kd h b = 200 + j := by
          have g : (va_up h.2.2.1 h.1 (kd, n) b).1 = 200 + j := g1
          rw [e] at g
          exact g
        obtain ⟨f, hf⟩ := o4 j g1'
        refine ⟨f, ?_⟩
        rw [ho b (hlt (by omega) (by omega)), hf]
        show some (arrV _ (h.2.2.1 b).2 _) = some (arrV _ (va_up h.2.2.1 h.1 (kd, n) b).2 _)
        rw [e]
theorem ah_Rel.lng {E : ahE} {h : ahH} {H H1 : Heap} (hR : ah_Rel E h H) {a j : Nat} (hk : ah_kd h a = 200 + j) (hz : H1.size = H.size) (ho : ∀ b : Nat, b ≠ a → H1[b]? = H[b]?) {f : Nat → Int64} (hn : H1[a]? = some (arrV (ae_A E j) (ah_ln h a) (fun k => .long (f k)))) (hc : ∀ ci q, pg_cls[ci]? = some q → ci < 98) : ah_Rel E h H1 := by
  obtain ⟨r1, ⟨r2, r2a, r2b⟩, r3, r4, r5⟩ := hR
  have hin := r4 a (by omega) (by omega)
  refine ⟨hz.trans r1, ⟨r2, r2a, r2b⟩, fun b hb => ?_, r4, fun b => ?_⟩
  · rw [ho b (by omega)]
    exact r3 b hb
  · by_cases hb : b = a
    · subst hb
      refine ⟨fun ci' q' h1 h2 => ?_, fun j' h1 hj => ?_, fun h1 => ?_, fun j' h1 => ?_⟩
      · have := hc ci' q' h2
        omega
      · omega
      · omega
      · have e2 : j' = j := by omega
        subst e2
        exact ⟨f, hn⟩
    · obtain ⟨o1, o2, o3, o4⟩ := r5 b
      refine ⟨fun ci' q' h1 h2 => ?_, fun j h1 hj => ?_, o3, fun j h1 => ?_⟩
      · exact (o1 ci' q' h1 h2).kept (ho b hb)
      · rw [ho b hb]
        exact o2 j h1 hj
      · rw [ho b hb]
        exact o4 j h1
end AHR
end
section
theorem wd0 : Cond.lays "BoundedTypes$Types" "BoundedTypes$Types" "classes" "[I" ∈ pg_T := pg_t0 (List.mem_of_getElem? (i := 51) (by decide +kernel)) rfl
theorem wd1 : Cond.lays "BoundedTypes$Types" "BoundedTypes$Types" "parts" "[I" ∈ pg_T := pg_t0 (List.mem_of_getElem? (i := 53) (by decide +kernel)) rfl
theorem wd2 : Cond.lays "BoundedTypes$Types" "BoundedTypes$Types" "held" "[I" ∈ pg_T := pg_t0 (List.mem_of_getElem? (i := 55) (by decide +kernel)) rfl
theorem wd3 : Cond.lays "BoundedTypes$Types" "BoundedTypes$Types" "buckets" "[I" ∈ pg_T := pg_t0 (List.mem_of_getElem? (i := 57) (by decide +kernel)) rfl
theorem wd4 : Cond.lays "BoundedTypes$Types" "BoundedTypes$Types" "next" "[I" ∈ pg_T := pg_t0 (List.mem_of_getElem? (i := 59) (by decide +kernel)) rfl
theorem wd5 : Cond.laysFinal "BoundedTypes$Types" "BoundedTypes$Types" "heads" "[I" ∈ pg_T := pg_t0 (List.mem_of_getElem? (i := 61) (by decide +kernel)) rfl
theorem wd6 : Cond.lays "BoundedTypes$Types" "BoundedTypes$Types" "count" "I" ∈ pg_T := pg_t0 (List.mem_of_getElem? (i := 63) (by decide +kernel)) rfl
theorem wd7 : Cond.laysFinal "BoundedTypes$Code" "BoundedTypes$Code" "kinds" "[I" ∈ pg_T := pg_t0 (List.mem_of_getElem? (i := 88) (by decide +kernel)) rfl
theorem wd8 : Cond.laysFinal "BoundedTypes$Code" "BoundedTypes$Code" "subjects" "[I" ∈ pg_T := pg_t0 (List.mem_of_getElem? (i := 90) (by decide +kernel)) rfl
theorem wd9 : Cond.laysFinal "BoundedTypes$Code" "BoundedTypes$Code" "amounts" "[I" ∈ pg_T := pg_t0 (List.mem_of_getElem? (i := 92) (by decide +kernel)) rfl
theorem wd10 : Cond.laysFinal "BoundedTypes$Code" "BoundedTypes$Code" "lists" "[I" ∈ pg_T := pg_t0 (List.mem_of_getElem? (i := 94) (by decide +kernel)) rfl
theorem wd11 : Cond.lays "BoundedTypes$Code" "BoundedTypes$Code" "count" "I" ∈ pg_T := pg_t0 (List.mem_of_getElem? (i := 96) (by decide +kernel)) rfl
theorem wd12 : Cond.laysFinal "BoundedTypes$Bounds" "BoundedTypes$Bounds" "variables" "[I" ∈ pg_T := pg_t0 (List.mem_of_getElem? (i := 124) (by decide +kernel)) rfl
theorem wd13 : Cond.laysFinal "BoundedTypes$Bounds" "BoundedTypes$Bounds" "types" "[I" ∈ pg_T := pg_t0 (List.mem_of_getElem? (i := 126) (by decide +kernel)) rfl
theorem wd14 : Cond.lays "BoundedTypes$Bounds" "BoundedTypes$Bounds" "count" "I" ∈ pg_T := pg_t0 (List.mem_of_getElem? (i := 128) (by decide +kernel)) rfl
theorem wd15 : Cond.lays "java/util/ArrayList" "java/util/ArrayList" "elementData" "[Ljava/lang/Object;" ∈ pg_T := pg_t0 (List.mem_of_getElem? (i := 154) (by decide +kernel)) rfl
theorem wd16 : Cond.lays "java/util/ArrayList" "java/util/ArrayList" "size" "I" ∈ pg_T := pg_t0 (List.mem_of_getElem? (i := 156) (by decide +kernel)) rfl
theorem wd17 : Cond.lays "java/util/ArrayList" "java/util/AbstractList" "modCount" "I" ∈ pg_T := pg_t0 (List.mem_of_getElem? (i := 158) (by decide +kernel)) rfl
theorem wd18 : Cond.laysFinal "BoundedTypes$Entry" "BoundedTypes$Entry" "name" "I" ∈ pg_T := pg_t0 (List.mem_of_getElem? (i := 190) (by decide +kernel)) rfl
theorem wd19 : Cond.laysFinal "BoundedTypes$Entry" "BoundedTypes$Entry" "bounds" "LBoundedTypes$Bounds;" ∈ pg_T := pg_t0 (List.mem_of_getElem? (i := 192) (by decide +kernel)) rfl
theorem wd20 : Cond.laysFinal "BoundedTypes$Entry" "BoundedTypes$Entry" "above" "I" ∈ pg_T := pg_t0 (List.mem_of_getElem? (i := 194) (by decide +kernel)) rfl
theorem wd21 : Cond.laysFinal "BoundedTypes$Entry" "BoundedTypes$Entry" "aboveClass" "I" ∈ pg_T := pg_t0 (List.mem_of_getElem? (i := 196) (by decide +kernel)) rfl
theorem wd22 : Cond.laysFinal "BoundedTypes$Entry" "BoundedTypes$Entry" "members" "Ljava/util/ArrayList;" ∈ pg_T := pg_t0 (List.mem_of_getElem? (i := 198) (by decide +kernel)) rfl
theorem wd23 : Cond.laysFinal "BoundedTypes$Entry" "BoundedTypes$Entry" "methods" "[LBoundedTypes$Member;" ∈ pg_T := pg_t0 (List.mem_of_getElem? (i := 200) (by decide +kernel)) rfl
theorem wd24 : Cond.laysFinal "BoundedTypes$Entry" "BoundedTypes$Entry" "fieldNames" "[I" ∈ pg_T := pg_t0 (List.mem_of_getElem? (i := 202) (by decide +kernel)) rfl
theorem wd25 : Cond.laysFinal "BoundedTypes$Entry" "BoundedTypes$Entry" "fieldTypes" "[I" ∈ pg_T := pg_t0 (List.mem_of_getElem? (i := 204) (by decide +kernel)) rfl
theorem wd26 : Cond.lays "BoundedTypes$Entry" "BoundedTypes$Entry" "firstOwnField" "I" ∈ pg_T := pg_t0 (List.mem_of_getElem? (i := 206) (by decide +kernel)) rfl
theorem wd27 : Cond.lays "BoundedTypes$Entry" "BoundedTypes$Entry" "fieldCount" "I" ∈ pg_T := pg_t0 (List.mem_of_getElem? (i := 208) (by decide +kernel)) rfl
theorem wd28 : Cond.laysFinal "BoundedTypes$Rules" "BoundedTypes$Rules" "types" "LBoundedTypes$Types;" ∈ pg_T := pg_t0 (List.mem_of_getElem? (i := 216) (by decide +kernel)) rfl
theorem wd29 : Cond.laysFinal "BoundedTypes$Rules" "BoundedTypes$Rules" "entries" "[LBoundedTypes$Entry;" ∈ pg_T := pg_t0 (List.mem_of_getElem? (i := 218) (by decide +kernel)) rfl
theorem wd30 : Cond.laysFinal "BoundedTypes$Rules" "BoundedTypes$Rules" "scope" "[I" ∈ pg_T := pg_t0 (List.mem_of_getElem? (i := 220) (by decide +kernel)) rfl
theorem wd31 : Cond.laysFinal "BoundedTypes$Rules" "BoundedTypes$Rules" "standing" "[I" ∈ pg_T := pg_t0 (List.mem_of_getElem? (i := 222) (by decide +kernel)) rfl
theorem wd32 : Cond.laysFinal "BoundedTypes$Reader" "BoundedTypes$Reader" "text" "[C" ∈ pg_T := pg_t1 (List.mem_of_getElem? (i := 1) (by decide +kernel)) rfl
theorem wd33 : Cond.laysFinal "BoundedTypes$Reader" "BoundedTypes$Reader" "types" "LBoundedTypes$Types;" ∈ pg_T := pg_t1 (List.mem_of_getElem? (i := 3) (by decide +kernel)) rfl
theorem wd34 : Cond.laysFinal "BoundedTypes$Reader" "BoundedTypes$Reader" "code" "LBoundedTypes$Code;" ∈ pg_T := pg_t1 (List.mem_of_getElem? (i := 5) (by decide +kernel)) rfl
theorem wd35 : Cond.laysFinal "BoundedTypes$Reader" "BoundedTypes$Reader" "marks" "[C" ∈ pg_T := pg_t1 (List.mem_of_getElem? (i := 7) (by decide +kernel)) rfl
theorem wd36 : Cond.laysFinal "BoundedTypes$Reader" "BoundedTypes$Reader" "places" "[I" ∈ pg_T := pg_t1 (List.mem_of_getElem? (i := 9) (by decide +kernel)) rfl
theorem wd37 : Cond.lays "BoundedTypes$Reader" "BoundedTypes$Reader" "now" "I" ∈ pg_T := pg_t1 (List.mem_of_getElem? (i := 11) (by decide +kernel)) rfl
theorem wd38 : Cond.lays "BoundedTypes$Reader" "BoundedTypes$Reader" "depth" "I" ∈ pg_T := pg_t1 (List.mem_of_getElem? (i := 13) (by decide +kernel)) rfl
theorem wd39 : Cond.laysFinal "BoundedTypes$Reader" "BoundedTypes$Reader" "casts" "[I" ∈ pg_T := pg_t1 (List.mem_of_getElem? (i := 15) (by decide +kernel)) rfl
theorem wd40 : Cond.lays "BoundedTypes$Reader" "BoundedTypes$Reader" "castCount" "I" ∈ pg_T := pg_t1 (List.mem_of_getElem? (i := 17) (by decide +kernel)) rfl
theorem wd41 : Cond.lays "BoundedTypes$Reader" "BoundedTypes$Reader" "inside" "LBoundedTypes$Member;" ∈ pg_T := pg_t1 (List.mem_of_getElem? (i := 19) (by decide +kernel)) rfl
theorem wd42 : Cond.laysFinal "BoundedTypes$Expressions" "BoundedTypes$Expressions" "types" "LBoundedTypes$Types;" ∈ pg_T := pg_t1 (List.mem_of_getElem? (i := 36) (by decide +kernel)) rfl
theorem wd43 : Cond.laysFinal "BoundedTypes$Expressions" "BoundedTypes$Expressions" "code" "LBoundedTypes$Code;" ∈ pg_T := pg_t1 (List.mem_of_getElem? (i := 38) (by decide +kernel)) rfl
theorem wd44 : Cond.laysFinal "BoundedTypes$Expressions" "BoundedTypes$Expressions" "rules" "LBoundedTypes$Rules;" ∈ pg_T := pg_t1 (List.mem_of_getElem? (i := 40) (by decide +kernel)) rfl
theorem wd45 : Cond.laysFinal "BoundedTypes$Expressions" "BoundedTypes$Expressions" "stack" "[I" ∈ pg_T := pg_t1 (List.mem_of_getElem? (i := 42) (by decide +kernel)) rfl
theorem wd46 : Cond.lays "BoundedTypes$Expressions" "BoundedTypes$Expressions" "top" "I" ∈ pg_T := pg_t1 (List.mem_of_getElem? (i := 44) (by decide +kernel)) rfl
theorem wd47 : Cond.laysFinal "BoundedTypes$Expressions" "BoundedTypes$Expressions" "awaited" "[I" ∈ pg_T := pg_t1 (List.mem_of_getElem? (i := 46) (by decide +kernel)) rfl
theorem wd48 : Cond.lays "BoundedTypes$Expressions" "BoundedTypes$Expressions" "self" "I" ∈ pg_T := pg_t1 (List.mem_of_getElem? (i := 48) (by decide +kernel)) rfl
theorem wd49 : Cond.lays "BoundedTypes$Expressions" "BoundedTypes$Expressions" "inside" "LBoundedTypes$Member;" ∈ pg_T := pg_t1 (List.mem_of_getElem? (i := 50) (by decide +kernel)) rfl
theorem wd50 : Cond.laysFinal "BoundedTypes$Declarations" "BoundedTypes$Declarations" "types" "LBoundedTypes$Types;" ∈ pg_T := pg_t1 (List.mem_of_getElem? (i := 62) (by decide +kernel)) rfl
theorem wd51 : Cond.laysFinal "BoundedTypes$Declarations" "BoundedTypes$Declarations" "rules" "LBoundedTypes$Rules;" ∈ pg_T := pg_t1 (List.mem_of_getElem? (i := 64) (by decide +kernel)) rfl
theorem wd52 : Cond.laysFinal "BoundedTypes$Declarations" "BoundedTypes$Declarations" "expressions" "LBoundedTypes$Expressions;" ∈ pg_T := pg_t1 (List.mem_of_getElem? (i := 66) (by decide +kernel)) rfl
theorem wd53 : Cond.laysFinal "BoundedTypes$Machine" "BoundedTypes$Machine" "types" "LBoundedTypes$Types;" ∈ pg_T := pg_t1 (List.mem_of_getElem? (i := 95) (by decide +kernel)) rfl
theorem wd54 : Cond.laysFinal "BoundedTypes$Machine" "BoundedTypes$Machine" "code" "LBoundedTypes$Code;" ∈ pg_T := pg_t1 (List.mem_of_getElem? (i := 97) (by decide +kernel)) rfl
theorem wd55 : Cond.laysFinal "BoundedTypes$Machine" "BoundedTypes$Machine" "rules" "LBoundedTypes$Rules;" ∈ pg_T := pg_t1 (List.mem_of_getElem? (i := 99) (by decide +kernel)) rfl
theorem wd56 : Cond.laysFinal "BoundedTypes$Machine" "BoundedTypes$Machine" "cells" "[I" ∈ pg_T := pg_t1 (List.mem_of_getElem? (i := 101) (by decide +kernel)) rfl
theorem wd57 : Cond.lays "BoundedTypes$Machine" "BoundedTypes$Machine" "cellCount" "I" ∈ pg_T := pg_t1 (List.mem_of_getElem? (i := 103) (by decide +kernel)) rfl
theorem wd58 : Cond.laysFinal "BoundedTypes$Machine" "BoundedTypes$Machine" "stack" "[I" ∈ pg_T := pg_t1 (List.mem_of_getElem? (i := 105) (by decide +kernel)) rfl
theorem wd59 : Cond.lays "BoundedTypes$Machine" "BoundedTypes$Machine" "top" "I" ∈ pg_T := pg_t1 (List.mem_of_getElem? (i := 107) (by decide +kernel)) rfl
theorem wd60 : Cond.laysFinal "BoundedTypes$Machine" "BoundedTypes$Machine" "frames" "[I" ∈ pg_T := pg_t1 (List.mem_of_getElem? (i := 109) (by decide +kernel)) rfl
theorem wd61 : Cond.lays "BoundedTypes$Machine" "BoundedTypes$Machine" "calls" "I" ∈ pg_T := pg_t1 (List.mem_of_getElem? (i := 111) (by decide +kernel)) rfl
theorem wd62 : Cond.lays "BoundedTypes$Machine" "BoundedTypes$Machine" "base" "I" ∈ pg_T := pg_t1 (List.mem_of_getElem? (i := 113) (by decide +kernel)) rfl
theorem wd63 : Cond.lays "BoundedTypes$Machine" "BoundedTypes$Machine" "place" "I" ∈ pg_T := pg_t1 (List.mem_of_getElem? (i := 115) (by decide +kernel)) rfl
theorem wd64 : Cond.lays "BoundedTypes$Machine" "BoundedTypes$Machine" "end" "I" ∈ pg_T := pg_t1 (List.mem_of_getElem? (i := 117) (by decide +kernel)) rfl
theorem wd65 : Cond.lays "BoundedTypes$Machine" "BoundedTypes$Machine" "fuel" "I" ∈ pg_T := pg_t1 (List.mem_of_getElem? (i := 119) (by decide +kernel)) rfl
theorem wd66 : Cond.laysFinal "BoundedTypes$Machine" "BoundedTypes$Machine" "text" "[C" ∈ pg_T := pg_t1 (List.mem_of_getElem? (i := 121) (by decide +kernel)) rfl
theorem wd67 : Cond.lays "BoundedTypes$Machine" "BoundedTypes$Machine" "textLength" "I" ∈ pg_T := pg_t1 (List.mem_of_getElem? (i := 123) (by decide +kernel)) rfl
theorem wd68 : Cond.laysFinal "BoundedTypes$Machine" "BoundedTypes$Machine" "openValues" "[I" ∈ pg_T := pg_t1 (List.mem_of_getElem? (i := 125) (by decide +kernel)) rfl
theorem wd69 : Cond.laysFinal "BoundedTypes$Machine" "BoundedTypes$Machine" "openFields" "[I" ∈ pg_T := pg_t1 (List.mem_of_getElem? (i := 127) (by decide +kernel)) rfl
theorem wd70 : Cond.laysFinal "BoundedTypes" "BoundedTypes" "typed" "[C" ∈ pg_T := pg_t1 (List.mem_of_getElem? (i := 139) (by decide +kernel)) rfl
theorem wd71 : Cond.lays "BoundedTypes" "BoundedTypes" "typedCount" "I" ∈ pg_T := pg_t1 (List.mem_of_getElem? (i := 141) (by decide +kernel)) rfl
theorem wd72 : Cond.laysFinal "BoundedTypes" "BoundedTypes" "types" "LBoundedTypes$Types;" ∈ pg_T := pg_t1 (List.mem_of_getElem? (i := 143) (by decide +kernel)) rfl
theorem wd73 : Cond.laysFinal "BoundedTypes" "BoundedTypes" "code" "LBoundedTypes$Code;" ∈ pg_T := pg_t1 (List.mem_of_getElem? (i := 145) (by decide +kernel)) rfl
theorem wd74 : Cond.laysFinal "BoundedTypes" "BoundedTypes" "rules" "LBoundedTypes$Rules;" ∈ pg_T := pg_t1 (List.mem_of_getElem? (i := 147) (by decide +kernel)) rfl
theorem wd75 : Cond.laysFinal "BoundedTypes" "BoundedTypes" "reader" "LBoundedTypes$Reader;" ∈ pg_T := pg_t1 (List.mem_of_getElem? (i := 149) (by decide +kernel)) rfl
theorem wd76 : Cond.laysFinal "BoundedTypes" "BoundedTypes" "expressions" "LBoundedTypes$Expressions;" ∈ pg_T := pg_t1 (List.mem_of_getElem? (i := 151) (by decide +kernel)) rfl
theorem wd77 : Cond.laysFinal "BoundedTypes" "BoundedTypes" "declarations" "LBoundedTypes$Declarations;" ∈ pg_T := pg_t1 (List.mem_of_getElem? (i := 153) (by decide +kernel)) rfl
theorem wd78 : Cond.laysFinal "BoundedTypes" "BoundedTypes" "machine" "LBoundedTypes$Machine;" ∈ pg_T := pg_t1 (List.mem_of_getElem? (i := 155) (by decide +kernel)) rfl
theorem wd79 : Cond.laysFinal "BoundedTypes$Member" "BoundedTypes$Member" "name" "I" ∈ pg_T := pg_t2 (List.mem_of_getElem? (i := 46) (by decide +kernel)) rfl
theorem wd80 : Cond.laysFinal "BoundedTypes$Member" "BoundedTypes$Member" "result" "I" ∈ pg_T := pg_t2 (List.mem_of_getElem? (i := 48) (by decide +kernel)) rfl
theorem wd81 : Cond.lays "BoundedTypes$Member" "BoundedTypes$Member" "isMethod" "Z" ∈ pg_T := pg_t2 (List.mem_of_getElem? (i := 50) (by decide +kernel)) rfl
theorem wd82 : Cond.laysFinal "BoundedTypes$Member" "BoundedTypes$Member" "bounds" "LBoundedTypes$Bounds;" ∈ pg_T := pg_t2 (List.mem_of_getElem? (i := 52) (by decide +kernel)) rfl
theorem wd83 : Cond.laysFinal "BoundedTypes$Member" "BoundedTypes$Member" "parameterNames" "[I" ∈ pg_T := pg_t2 (List.mem_of_getElem? (i := 54) (by decide +kernel)) rfl
theorem wd84 : Cond.laysFinal "BoundedTypes$Member" "BoundedTypes$Member" "parameterTypes" "[I" ∈ pg_T := pg_t2 (List.mem_of_getElem? (i := 56) (by decide +kernel)) rfl
theorem wd85 : Cond.lays "BoundedTypes$Member" "BoundedTypes$Member" "parameterCount" "I" ∈ pg_T := pg_t2 (List.mem_of_getElem? (i := 58) (by decide +kernel)) rfl
theorem wd86 : Cond.lays "BoundedTypes$Member" "BoundedTypes$Member" "codeStart" "I" ∈ pg_T := pg_t2 (List.mem_of_getElem? (i := 60) (by decide +kernel)) rfl
theorem wd87 : Cond.lays "BoundedTypes$Member" "BoundedTypes$Member" "codeEnd" "I" ∈ pg_T := pg_t2 (List.mem_of_getElem? (i := 62) (by decide +kernel)) rfl
theorem wd88 : Cond.laysFinal "BoundedTypesModel" "BoundedTypesModel" "chars" "[I" ∈ pg_T := pg_t4 (List.mem_of_getElem? (i := 140) (by decide +kernel)) rfl
theorem wd89 : Cond.lays "BoundedTypesModel" "BoundedTypesModel" "typed" "I" ∈ pg_T := pg_t4 (List.mem_of_getElem? (i := 142) (by decide +kernel)) rfl
theorem wd90 : Cond.lays "BoundedTypesModel" "BoundedTypesModel" "size" "I" ∈ pg_T := pg_t4 (List.mem_of_getElem? (i := 144) (by decide +kernel)) rfl
theorem wd91 : Cond.lays "BoundedTypesModel" "BoundedTypesModel" "at" "I" ∈ pg_T := pg_t4 (List.mem_of_getElem? (i := 146) (by decide +kernel)) rfl
theorem wd92 : Cond.lays "BoundedTypesModel" "BoundedTypesModel" "depth" "I" ∈ pg_T := pg_t4 (List.mem_of_getElem? (i := 148) (by decide +kernel)) rfl
theorem wd93 : Cond.lays "BoundedTypesModel" "BoundedTypesModel" "fault" "I" ∈ pg_T := pg_t4 (List.mem_of_getElem? (i := 150) (by decide +kernel)) rfl
theorem wd94 : Cond.lays "BoundedTypesModel" "BoundedTypesModel" "wrong" "I" ∈ pg_T := pg_t4 (List.mem_of_getElem? (i := 152) (by decide +kernel)) rfl
theorem wd95 : Cond.lays "BoundedTypesModel" "BoundedTypesModel" "nodes" "I" ∈ pg_T := pg_t4 (List.mem_of_getElem? (i := 154) (by decide +kernel)) rfl
theorem wd96 : Cond.laysFinal "BoundedTypesModel" "BoundedTypesModel" "code" "[I" ∈ pg_T := pg_t4 (List.mem_of_getElem? (i := 156) (by decide +kernel)) rfl
theorem wd97 : Cond.laysFinal "BoundedTypesModel" "BoundedTypesModel" "part" "[I" ∈ pg_T := pg_t4 (List.mem_of_getElem? (i := 158) (by decide +kernel)) rfl
theorem wd98 : Cond.laysFinal "BoundedTypesModel" "BoundedTypesModel" "work" "[I" ∈ pg_T := pg_t4 (List.mem_of_getElem? (i := 160) (by decide +kernel)) rfl
theorem wd99 : Cond.laysFinal "BoundedTypesModel" "BoundedTypesModel" "reached" "[I" ∈ pg_T := pg_t4 (List.mem_of_getElem? (i := 162) (by decide +kernel)) rfl
theorem wd100 : Cond.laysFinal "BoundedTypesModel" "BoundedTypesModel" "held" "[I" ∈ pg_T := pg_t4 (List.mem_of_getElem? (i := 164) (by decide +kernel)) rfl
theorem wd101 : Cond.laysFinal "BoundedTypesModel" "BoundedTypesModel" "map" "[I" ∈ pg_T := pg_t4 (List.mem_of_getElem? (i := 166) (by decide +kernel)) rfl
theorem wd102 : Cond.laysFinal "BoundedTypesModel" "BoundedTypesModel" "bound" "[I" ∈ pg_T := pg_t4 (List.mem_of_getElem? (i := 168) (by decide +kernel)) rfl
theorem wd103 : Cond.laysFinal "BoundedTypesModel" "BoundedTypesModel" "there" "[I" ∈ pg_T := pg_t4 (List.mem_of_getElem? (i := 170) (by decide +kernel)) rfl
theorem wd104 : Cond.laysFinal "BoundedTypesModel" "BoundedTypesModel" "vars" "[I" ∈ pg_T := pg_t4 (List.mem_of_getElem? (i := 172) (by decide +kernel)) rfl
theorem wd105 : Cond.laysFinal "BoundedTypesModel" "BoundedTypesModel" "letter" "[I" ∈ pg_T := pg_t4 (List.mem_of_getElem? (i := 174) (by decide +kernel)) rfl
theorem wd106 : Cond.laysFinal "BoundedTypesModel" "BoundedTypesModel" "limit" "[I" ∈ pg_T := pg_t4 (List.mem_of_getElem? (i := 176) (by decide +kernel)) rfl
theorem wd107 : Cond.laysFinal "BoundedTypesModel" "BoundedTypesModel" "below" "[I" ∈ pg_T := pg_t4 (List.mem_of_getElem? (i := 178) (by decide +kernel)) rfl
theorem wd108 : Cond.lays "BoundedTypesModel" "BoundedTypesModel" "behind" "I" ∈ pg_T := pg_t4 (List.mem_of_getElem? (i := 180) (by decide +kernel)) rfl
theorem wd109 : Cond.laysFinal "BoundedTypesModel" "BoundedTypesModel" "newLetter" "[I" ∈ pg_T := pg_t4 (List.mem_of_getElem? (i := 182) (by decide +kernel)) rfl
theorem wd110 : Cond.laysFinal "BoundedTypesModel" "BoundedTypesModel" "newLimit" "[I" ∈ pg_T := pg_t4 (List.mem_of_getElem? (i := 184) (by decide +kernel)) rfl
theorem wd111 : Cond.lays "BoundedTypesModel" "BoundedTypesModel" "fieldCount" "I" ∈ pg_T := pg_t4 (List.mem_of_getElem? (i := 186) (by decide +kernel)) rfl
theorem wd112 : Cond.laysFinal "BoundedTypesModel" "BoundedTypesModel" "fieldClass" "[I" ∈ pg_T := pg_t4 (List.mem_of_getElem? (i := 188) (by decide +kernel)) rfl
theorem wd113 : Cond.laysFinal "BoundedTypesModel" "BoundedTypesModel" "fieldName" "[I" ∈ pg_T := pg_t4 (List.mem_of_getElem? (i := 190) (by decide +kernel)) rfl
theorem wd114 : Cond.laysFinal "BoundedTypesModel" "BoundedTypesModel" "fieldType" "[I" ∈ pg_T := pg_t4 (List.mem_of_getElem? (i := 192) (by decide +kernel)) rfl
theorem wd115 : Cond.lays "BoundedTypesModel" "BoundedTypesModel" "methodCount" "I" ∈ pg_T := pg_t4 (List.mem_of_getElem? (i := 194) (by decide +kernel)) rfl
theorem wd116 : Cond.laysFinal "BoundedTypesModel" "BoundedTypesModel" "owner" "[I" ∈ pg_T := pg_t4 (List.mem_of_getElem? (i := 196) (by decide +kernel)) rfl
theorem wd117 : Cond.laysFinal "BoundedTypesModel" "BoundedTypesModel" "methodName" "[I" ∈ pg_T := pg_t4 (List.mem_of_getElem? (i := 198) (by decide +kernel)) rfl
theorem wd118 : Cond.laysFinal "BoundedTypesModel" "BoundedTypesModel" "methodVars" "[I" ∈ pg_T := pg_t4 (List.mem_of_getElem? (i := 200) (by decide +kernel)) rfl
theorem wd119 : Cond.laysFinal "BoundedTypesModel" "BoundedTypesModel" "methodLetter" "[I" ∈ pg_T := pg_t4 (List.mem_of_getElem? (i := 202) (by decide +kernel)) rfl
theorem wd120 : Cond.laysFinal "BoundedTypesModel" "BoundedTypesModel" "methodLimit" "[I" ∈ pg_T := pg_t4 (List.mem_of_getElem? (i := 204) (by decide +kernel)) rfl
theorem wd121 : Cond.laysFinal "BoundedTypesModel" "BoundedTypesModel" "parameters" "[I" ∈ pg_T := pg_t4 (List.mem_of_getElem? (i := 206) (by decide +kernel)) rfl
theorem wd122 : Cond.laysFinal "BoundedTypesModel" "BoundedTypesModel" "parameterName" "[I" ∈ pg_T := pg_t4 (List.mem_of_getElem? (i := 208) (by decide +kernel)) rfl
theorem wd123 : Cond.laysFinal "BoundedTypesModel" "BoundedTypesModel" "parameterType" "[I" ∈ pg_T := pg_t4 (List.mem_of_getElem? (i := 210) (by decide +kernel)) rfl
theorem wd124 : Cond.laysFinal "BoundedTypesModel" "BoundedTypesModel" "result" "[I" ∈ pg_T := pg_t4 (List.mem_of_getElem? (i := 212) (by decide +kernel)) rfl
theorem wd125 : Cond.laysFinal "BoundedTypesModel" "BoundedTypesModel" "from" "[I" ∈ pg_T := pg_t4 (List.mem_of_getElem? (i := 214) (by decide +kernel)) rfl
theorem wd126 : Cond.laysFinal "BoundedTypesModel" "BoundedTypesModel" "to" "[I" ∈ pg_T := pg_t4 (List.mem_of_getElem? (i := 216) (by decide +kernel)) rfl
theorem wd127 : Cond.lays "BoundedTypesModel" "BoundedTypesModel" "steps" "I" ∈ pg_T := pg_t4 (List.mem_of_getElem? (i := 218) (by decide +kernel)) rfl
theorem wd128 : Cond.laysFinal "BoundedTypesModel" "BoundedTypesModel" "step" "[J" ∈ pg_T := pg_t4 (List.mem_of_getElem? (i := 220) (by decide +kernel)) rfl
theorem wd129 : Cond.lays "BoundedTypesModel" "BoundedTypesModel" "members" "I" ∈ pg_T := pg_t4 (List.mem_of_getElem? (i := 222) (by decide +kernel)) rfl
theorem wd130 : Cond.laysFinal "BoundedTypesModel" "BoundedTypesModel" "member" "[I" ∈ pg_T := pg_t4 (List.mem_of_getElem? (i := 224) (by decide +kernel)) rfl
theorem wd131 : Cond.laysFinal "BoundedTypesModel" "BoundedTypesModel" "kind" "[I" ∈ pg_T := pg_t4 (List.mem_of_getElem? (i := 226) (by decide +kernel)) rfl
theorem wd132 : Cond.laysFinal "BoundedTypesModel" "BoundedTypesModel" "about" "[I" ∈ pg_T := pg_t4 (List.mem_of_getElem? (i := 228) (by decide +kernel)) rfl
theorem wd133 : Cond.laysFinal "BoundedTypesModel" "BoundedTypesModel" "many" "[I" ∈ pg_T := pg_t4 (List.mem_of_getElem? (i := 230) (by decide +kernel)) rfl
theorem wd134 : Cond.laysFinal "BoundedTypesModel" "BoundedTypesModel" "types" "[I" ∈ pg_T := pg_t4 (List.mem_of_getElem? (i := 232) (by decide +kernel)) rfl
theorem wd135 : Cond.laysFinal "BoundedTypesModel" "BoundedTypesModel" "given" "[I" ∈ pg_T := pg_t4 (List.mem_of_getElem? (i := 234) (by decide +kernel)) rfl
theorem wd136 : Cond.laysFinal "BoundedTypesModel" "BoundedTypesModel" "values" "[I" ∈ pg_T := pg_t4 (List.mem_of_getElem? (i := 236) (by decide +kernel)) rfl
theorem wd137 : Cond.lays "BoundedTypesModel" "BoundedTypesModel" "heapSize" "I" ∈ pg_T := pg_t4 (List.mem_of_getElem? (i := 238) (by decide +kernel)) rfl
theorem wd138 : Cond.laysFinal "BoundedTypesModel" "BoundedTypesModel" "heap" "[I" ∈ pg_T := pg_t5 (List.mem_of_getElem? (i := 0) (by decide +kernel)) rfl
theorem wd139 : Cond.laysFinal "BoundedTypesModel" "BoundedTypesModel" "callMethod" "[I" ∈ pg_T := pg_t5 (List.mem_of_getElem? (i := 2) (by decide +kernel)) rfl
theorem wd140 : Cond.laysFinal "BoundedTypesModel" "BoundedTypesModel" "callStep" "[I" ∈ pg_T := pg_t5 (List.mem_of_getElem? (i := 4) (by decide +kernel)) rfl
theorem wd141 : Cond.laysFinal "BoundedTypesModel" "BoundedTypesModel" "callThis" "[I" ∈ pg_T := pg_t5 (List.mem_of_getElem? (i := 6) (by decide +kernel)) rfl
theorem wd142 : Cond.laysFinal "BoundedTypesModel" "BoundedTypesModel" "callGiven" "[I" ∈ pg_T := pg_t5 (List.mem_of_getElem? (i := 8) (by decide +kernel)) rfl
theorem wd143 : Cond.laysFinal "BoundedTypesModel" "BoundedTypesModel" "text" "[I" ∈ pg_T := pg_t5 (List.mem_of_getElem? (i := 10) (by decide +kernel)) rfl
theorem wd144 : Cond.lays "BoundedTypesModel" "BoundedTypesModel" "textSize" "I" ∈ pg_T := pg_t5 (List.mem_of_getElem? (i := 12) (by decide +kernel)) rfl
theorem wd145 : Cond.lays "BoundedTypesModel" "BoundedTypesModel" "fuelLeft" "I" ∈ pg_T := pg_t5 (List.mem_of_getElem? (i := 14) (by decide +kernel)) rfl
theorem wd146 : Cond.lays "BoundedTypesModel" "BoundedTypesModel" "foundIn" "I" ∈ pg_T := pg_t5 (List.mem_of_getElem? (i := 16) (by decide +kernel)) rfl
theorem pg_ok0 : ah_PC 0 ("BoundedTypes$Types", pg_T0, 7) := by
  refine ⟨by decide, fun k hk => ?_, by decide +kernel, by decide +kernel, by decide +kernel⟩
  match k, hk with
  | 0, _ => exact wd0
  | 1, _ => exact wd1
  | 2, _ => exact wd2
  | 3, _ => exact wd3
  | 4, _ => exact wd4
  | 5, _ => exact wd5
  | 6, _ => exact wd6
  | k + 7, h => exact absurd h (by show ¬ k + 7 < 7; omega)
theorem pg_ok1 : ah_PC 1 ("BoundedTypes$Code", pg_T1, 5) := by
  refine ⟨by decide, fun k hk => ?_, by decide +kernel, by decide +kernel, by decide +kernel⟩
  match k, hk with
  | 0, _ => exact wd7
  | 1, _ => exact wd8
  | 2, _ => exact wd9
  | 3, _ => exact wd10
  | 4, _ => exact wd11
  | k + 5, h => exact absurd h (by show ¬ k + 5 < 5; omega)
theorem pg_ok2 : ah_PC 2 ("BoundedTypes$Bounds", pg_T2, 3) := by
  refine ⟨by decide, fun k hk => ?_, by decide +kernel, by decide +kernel, by decide +kernel⟩
  match k, hk with
  | 0, _ => exact wd12
  | 1, _ => exact wd13
  | 2, _ => exact wd14
  | k + 3, h => exact absurd h (by show ¬ k + 3 < 3; omega)
theorem pg_ok3 : ah_PC 3 ("java/util/ArrayList", pg_T3, 3) := by
  refine ⟨by decide, fun k hk => ?_, by decide +kernel, by decide +kernel, by decide +kernel⟩
  match k, hk with
  | 0, _ => exact wd15
  | 1, _ => exact wd16
  | 2, _ => exact wd17
  | k + 3, h => exact absurd h (by show ¬ k + 3 < 3; omega)
theorem pg_ok4 : ah_PC 4 ("BoundedTypes$Entry", pg_T4, 10) := by
  refine ⟨by decide, fun k hk => ?_, by decide +kernel, by decide +kernel, by decide +kernel⟩
  match k, hk with
  | 0, _ => exact wd18
  | 1, _ => exact wd19
  | 2, _ => exact wd20
  | 3, _ => exact wd21
  | 4, _ => exact wd22
  | 5, _ => exact wd23
  | 6, _ => exact wd24
  | 7, _ => exact wd25
  | 8, _ => exact wd26
  | 9, _ => exact wd27
  | k + 10, h => exact absurd h (by show ¬ k + 10 < 10; omega)
theorem pg_ok5 : ah_PC 5 ("BoundedTypes$Rules", pg_T5, 4) := by
  refine ⟨by decide, fun k hk => ?_, by decide +kernel, by decide +kernel, by decide +kernel⟩
  match k, hk with
  | 0, _ => exact wd28
  | 1, _ => exact wd29
  | 2, _ => exact wd30
  | 3, _ => exact wd31
  | k + 4, h => exact absurd h (by show ¬ k + 4 < 4; omega)
theorem pg_ok6 : ah_PC 6 ("BoundedTypes$Reader", pg_T6, 10) := by
  refine ⟨by decide, fun k hk => ?_, by decide +kernel, by decide +kernel, by decide +kernel⟩
  match k, hk with
  | 0, _ => exact wd32
  | 1, _ => exact wd33
  | 2, _ => exact wd34
  | 3, _ => exact wd35
  | 4, _ => exact wd36
  | 5, _ => exact wd37
  | 6, _ => exact wd38
  | 7, _ => exact wd39
  | 8, _ => exact wd40
  | 9, _ => exact wd41
  | k + 10, h => exact absurd h (by show ¬ k + 10 < 10; omega)
theorem pg_ok7 : ah_PC 7 ("BoundedTypes$Expressions", pg_T7, 8) := by
  refine ⟨by decide, fun k hk => ?_, by decide +kernel, by decide +kernel, by decide +kernel⟩
  match k, hk with
  | 0, _ => exact wd42
  | 1, _ => exact wd43
  | 2, _ => exact wd44
  | 3, _ => exact wd45
  | 4, _ => exact wd46
  | 5, _ => exact wd47
  | 6, _ => exact wd48
  | 7, _ => exact wd49
  | k + 8, h => exact absurd h (by show ¬ k + 8 < 8; omega)
theorem pg_ok8 : ah_PC 8 ("BoundedTypes$Declarations", pg_T8, 3) := by
  refine ⟨by decide, fun k hk => ?_, by decide +kernel, by decide +kernel, by decide +kernel⟩
  match k, hk with
  | 0, _ => exact wd50
  | 1, _ => exact wd51
  | 2, _ => exact wd52
  | k + 3, h => exact absurd h (by show ¬ k + 3 < 3; omega)
theorem pg_ok9 : ah_PC 9 ("BoundedTypes$Machine", pg_T9, 17) := by
  refine ⟨by decide, fun k hk => ?_, by decide +kernel, by decide +kernel, by decide +kernel⟩
  match k, hk with
  | 0, _ => exact wd53
  | 1, _ => exact wd54
  | 2, _ => exact wd55
  | 3, _ => exact wd56
  | 4, _ => exact wd57
  | 5, _ => exact wd58
  | 6, _ => exact wd59
  | 7, _ => exact wd60
  | 8, _ => exact wd61
  | 9, _ => exact wd62
  | 10, _ => exact wd63
  | 11, _ => exact wd64
  | 12, _ => exact wd65
  | 13, _ => exact wd66
  | 14, _ => exact wd67
  | 15, _ => exact wd68
  | 16, _ => exact wd69
  | k + 17, h => exact absurd h (by show ¬ k + 17 < 17; omega)
theorem pg_ok10 : ah_PC 10 ("BoundedTypes", pg_T10, 9) := by
  refine ⟨by decide, fun k hk => ?_, by decide +kernel, by decide +kernel, by decide +kernel⟩
  match k, hk with
  | 0, _ => exact wd70
  | 1, _ => exact wd71
  | 2, _ => exact wd72
  | 3, _ => exact wd73
  | 4, _ => exact wd74
  | 5, _ => exact wd75
  | 6, _ => exact wd76
  | 7, _ => exact wd77
  | 8, _ => exact wd78
  | k + 9, h => exact absurd h (by show ¬ k + 9 < 9; omega)
theorem pg_ok11 : ah_PC 11 ("BoundedTypes$Member", pg_T11, 9) := by
  refine ⟨by decide, fun k hk => ?_, by decide +kernel, by decide +kernel, by decide +kernel⟩
  match k, hk with
  | 0, _ => exact wd79
  | 1, _ => exact wd80
  | 2, _ => exact wd81
  | 3, _ => exact wd82
  | 4, _ => exact wd83
  | 5, _ => exact wd84
  | 6, _ => exact wd85
  | 7, _ => exact wd86
  | 8, _ => exact wd87
  | k + 9, h => exact absurd h (by show ¬ k + 9 < 9; omega)
theorem pg_ok12 : ah_PC 12 ("BoundedTypesModel", pg_T12, 59) := by
  refine ⟨by decide, fun k hk => ?_, by decide +kernel, by decide +kernel, by decide +kernel⟩
  match k, hk with
  | 0, _ => exact wd88
  | 1, _ => exact wd89
  | 2, _ => exact wd90
  | 3, _ => exact wd91
  | 4, _ => exact wd92
  | 5, _ => exact wd93
  | 6, _ => exact wd94
  | 7, _ => exact wd95
  | 8, _ => exact wd96
  | 9, _ => exact wd97
  | 10, _ => exact wd98
  | 11, _ => exact wd99
  | 12, _ => exact wd100
  | 13, _ => exact wd101
  | 14, _ => exact wd102
  | 15, _ => exact wd103
  | 16, _ => exact wd104
  | 17, _ => exact wd105
  | 18, _ => exact wd106
  | 19, _ => exact wd107
  | 20, _ => exact wd108
  | 21, _ => exact wd109
  | 22, _ => exact wd110
  | 23, _ => exact wd111
  | 24, _ => exact wd112
  | 25, _ => exact wd113
  | 26, _ => exact wd114
  | 27, _ => exact wd115
  | 28, _ => exact wd116
  | 29, _ => exact wd117
  | 30, _ => exact wd118
  | 31, _ => exact wd119
  | 32, _ => exact wd120
  | 33, _ => exact wd121
  | 34, _ => exact wd122
  | 35, _ => exact wd123
  | 36, _ => exact wd124
  | 37, _ => exact wd125
  | 38, _ => exact wd126
  | 39, _ => exact wd127
  | 40, _ => exact wd128
  | 41, _ => exact wd129
  | 42, _ => exact wd130
  | 43, _ => exact wd131
  | 44, _ => exact wd132
  | 45, _ => exact wd133
  | 46, _ => exact wd134
  | 47, _ => exact wd135
  | 48, _ => exact wd136
  | 49, _ => exact wd137
  | 50, _ => exact wd138
  | 51, _ => exact wd139
  | 52, _ => exact wd140
  | 53, _ => exact wd141
  | 54, _ => exact wd142
  | 55, _ => exact wd143
  | 56, _ => exact wd144
  | 57, _ => exact wd145
  | 58, _ => exact wd146
  | k + 59, h => exact absurd h (by show ¬ k + 59 < 59; omega)
theorem pg_ok (ci : Nat) (q : vw_C) (h : pg_cls[ci]? = some q) : ah_PC ci q := by
  match ci, h with
  | 0, h => cases h; exact pg_ok0
  | 1, h => cases h; exact pg_ok1
  | 2, h => cases h; exact pg_ok2
  | 3, h => cases h; exact pg_ok3
  | 4, h => cases h; exact pg_ok4
  | 5, h => cases h; exact pg_ok5
  | 6, h => cases h; exact pg_ok6
  | 7, h => cases h; exact pg_ok7
  | 8, h => cases h; exact pg_ok8
  | 9, h => cases h; exact pg_ok9
  | 10, h => cases h; exact pg_ok10
  | 11, h => cases h; exact pg_ok11
  | 12, h => cases h; exact pg_ok12
  | k + 13, h => cases h
end
section
section AHX
abbrev ahX : Type := Program × Launch × Env × Room × State × MethodId × Array Value × List Frame × Method × Code
abbrev ax_p (X : ahX) : Program := X.1
abbrev ax_l (X : ahX) : Launch := X.2.1
abbrev ax_e (X : ahX) : Env := X.2.2.1
abbrev ax_R (X : ahX) : Room := X.2.2.2.1
abbrev ax_s (X : ahX) : State := X.2.2.2.2.1
abbrev ax_m (X : ahX) : MethodId := X.2.2.2.2.2.1
abbrev ax_a (X : ahX) : Array Value := X.2.2.2.2.2.2.1
abbrev ax_b (X : ahX) : List Frame := X.2.2.2.2.2.2.2.1
abbrev ax_M (X : ahX) : Method := X.2.2.2.2.2.2.2.2.1
abbrev ax_c (X : ahX) : Code := X.2.2.2.2.2.2.2.2.2
abbrev ah_W (X : ahX) (H : Heap) (locs : List Loc) (cells slots : Nat) (Q : State → Prop) (g : JFrame) : Prop :=
  W (ax_p X) (ax_l X) (ax_e X) (ax_R X) (ax_s X) (ax_m X) (ax_a X) (ax_b X) (ax_M X) (ax_c X) H locs cells slots Q g
def ah_lv (ls : Array Slot) (lv : List (Option Value)) : Prop := ls.size = lv.length ∧ lv_wf ls ∧ ∀ (i : Nat) (v : Value), lv[i]? = some (some v) → ls[i]? = some (.val v) ∧ v.category = 1
def ah_J (E : ahE) (X : ahX) (Q : State → Prop) (pc : Nat) (lv : List (Option Value)) (st : List Value) (h : ahH) (n u : Nat) : Prop :=
  ∀ (H : Heap) (locs : List Loc) (ls : Array Slot) (cells slots : Nat), ah_Rel E h H → (∀ q ∈ locs, ae_B E ≤ q.base) → ah_lv ls lv → cells + n ≤ (ax_R X).cells → slots + u ≤ (ax_R X).slots →
    ah_W X H locs cells slots Q (F0 (ax_m X) pc ls st)
def ah_S (E : ahE) (X : ahX) {ρ : Type} (Qf : ρ → ahH → State → Prop) (pc : Nat) (lv : List (Option Value)) (st : List Value) (f : ahM ρ) : Prop :=
  ∀ (h : ahH) (r : ρ) (n u : Nat) (c : ahC), f h = some (r, n, u, c) → ah_J E X (Qf r (ah_nx h n u c)) pc lv st h n u
def ah_Cx (E : ahE) (X : ahX) (cc : ByteArray) (nL : Nat) (own : String) (F L : Nat) : Prop :=
  (ax_p X).tables.exec = Jvm.exec ∧ (ax_c X).code = cc ∧ (ax_c X).maxLocals = nL ∧ (ax_s X).vm.findClass own = some (ax_m X).cls ∧ (∀ w ∈ pg_T, w.before (ax_a X) (ax_s X) = true) ∧ ah_K E (ax_s X) ∧ F ≤ (ax_R X).frames ∧ L ≤ (ax_R X).locals
theorem ah_nx0 (h : ahH) : ah_nx h 0 0 h.2.2 = h := rfl
variable {E : ahE} {X : ahX} {ρ : Type} {Qf : ρ → ahH → State → Prop} {cc : ByteArray} {nL : Nat} {own : String} {F L pc : Nat} {lv lv' : List (Option Value)} {st : List Value} {f : ahM ρ}
theorem ah_go {pc' : Nat} {st' : List Value} (g : ∀ (H : Heap) (locs : List Loc) (cells slots : Nat) (Q : State → Prop) (ls : Array Slot), ah_lv ls lv → ah_W X H locs cells slots Q (F0 (ax_m X) pc' ls st') → ah_W X H locs cells slots Q (F0 (ax_m X) pc ls st))
    (kk : ah_S E X Qf pc' lv st' f) : ah_S E X Qf pc lv st f := by
  intro h r n u c hs H locs ls cells slots h1 h2 h3 h4 h5
  exact g H locs cells slots _ ls h3 (kk h r n u c hs H locs ls cells slots h1 h2 h3 h4 h5)
theorem ah_iconst (C : ah_Cx E X cc nL own F L) {n : Int} {v : Int32} (hd : decode cc pc = .ok (.iconst n, 1)) (hv : Int32.ofInt n = v) (kk : ah_S E X Qf (pc + 1) lv (.int v :: st) f) : ah_S E X Qf pc lv st f :=
  ah_go (fun _ _ _ _ _ _ _ k => lv_iconst C.1 C.2.1 hd hv k) kk
theorem ah_bipush (C : ah_Cx E X cc nL own F L) {n : Int} {v : Int32} (hd : decode cc pc = .ok (.bipush n, 2)) (hv : (Int8.ofInt n).toInt32 = v) (kk : ah_S E X Qf (pc + 2) lv (.int v :: st) f) : ah_S E X Qf pc lv st f :=
  ah_go (fun _ _ _ _ _ _ _ k => lv_bipush C.1 C.2.1 hd hv k) kk
theorem ah_sipush (C : ah_Cx E X cc nL own F L) {n : Int} {v : Int32} (hd : decode cc pc = .ok (.sipush n, 3)) (hv : (Int16.ofInt n).toInt32 = v) (kk : ah_S E X Qf (pc + 3) lv (.int v :: st) f) : ah_S E X Qf pc lv st f :=
  ah_go (fun _ _ _ _ _ _ _ k => lv_sipush C.1 C.2.1 hd hv k) kk
theorem ah_ldc (C : ah_Cx E X cc nL own F L) {idx : Nat} {v : Int32} (hw : Cond.constant own idx v ∈ pg_T) (hd : decode cc pc = .ok (.ldc idx, 2)) (kk : ah_S E X Qf (pc + 2) lv (.int v :: st) f) : ah_S E X Qf pc lv st f :=
  ah_go (fun _ _ _ _ _ _ _ k => lv_ldc C.1 C.2.1 C.2.2.2.1 (C.2.2.2.2.1 _ hw) hd k) kk
theorem ah_null (C : ah_Cx E X cc nL own F L) (hd : decode cc pc = .ok (.aconst_null, 1)) (kk : ah_S E X Qf (pc + 1) lv (va_rf none :: st) f) : ah_S E X Qf pc lv st f :=
  ah_go (fun _ _ _ _ _ _ _ k => lv_null C.1 C.2.1 hd k) kk
theorem ah_iload_n (C : ah_Cx E X cc nL own F L) {k : Fin 4} {x : Int32} (hd : decode cc pc = .ok (.iload_n k, 1)) (hl : lv[(k : Nat)]? = some (some (.int x))) (kk : ah_S E X Qf (pc + 1) lv (.int x :: st) f) : ah_S E X Qf pc lv st f :=
  ah_go (fun _ _ _ _ _ _ h3 k => lv_iload_n C.1 C.2.1 hd rfl (h3.2.2 _ _ hl).1 k) kk
theorem ah_iload (C : ah_Cx E X cc nL own F L) {i : Nat} {x : Int32} (hd : decode cc pc = .ok (.iload i, 2)) (hl : lv[i]? = some (some (.int x))) (kk : ah_S E X Qf (pc + 2) lv (.int x :: st) f) : ah_S E X Qf pc lv st f :=
  ah_go (fun _ _ _ _ _ _ h3 k => lv_iload C.1 C.2.1 hd (h3.2.2 _ _ hl).1 k) kk
theorem ah_aload_n (C : ah_Cx E X cc nL own F L) {k : Fin 4} {r : Option Nat} (hd : decode cc pc = .ok (.aload_n k, 1)) (hl : lv[(k : Nat)]? = some (some (va_rf r))) (kk : ah_S E X Qf (pc + 1) lv (va_rf r :: st) f) : ah_S E X Qf pc lv st f :=
  ah_go (fun _ _ _ _ _ _ h3 k => by
    cases r with
    | none => exact lv_aload_nN C.1 C.2.1 hd rfl (h3.2.2 _ _ hl).1 k
    | some a => exact lv_aload_n C.1 C.2.1 hd rfl (h3.2.2 _ _ hl).1 k) kk
theorem ah_aload (C : ah_Cx E X cc nL own F L) {i : Nat} {r : Option Nat} (hd : decode cc pc = .ok (.aload i, 2)) (hl : lv[i]? = some (some (va_rf r))) (kk : ah_S E X Qf (pc + 2) lv (va_rf r :: st) f) : ah_S E X Qf pc lv st f :=
  ah_go (fun _ _ _ _ _ _ h3 k => by
    cases r with
    | none => exact lv_aloadN C.1 C.2.1 hd (h3.2.2 _ _ hl).1 k
    | some a => exact lv_aload C.1 C.2.1 hd (h3.2.2 _ _ hl).1 k) kk
theorem ah_lv_set {ls ls' : Array Slot} {i : Nat} {v : Value} (h : ah_lv ls lv) (hi : i < lv.length) (hc : v.category = 1) (e : storeLocals ls i v = some ls') : ah_lv ls' (lv.set i (some v)) := by
  obtain ⟨h1, h2, h3⟩ := h
  have key : ∀ l : List (Nat × Value), (∀ q ∈ l, ls[q.1]? = some (.val q.2)) → lv_has ls' lv.length ((i, v) :: l.filter (fun q => !(q.1 == i) && !(q.1 + 1 == i && q.2.category == 2))) := by
    intro l hl
    obtain ⟨ls2, e2, h4⟩ := lv_store1 (ls := ls) (nL := lv.length) (l := l) (i := i) (v := v) ⟨h1, h2, hl⟩ hi hc
    cases e.symm.trans e2
    exact h4
  have h0 := key [] (fun q h => by cases h)
  refine ⟨by rw [List.length_set]; exact h0.1, h0.2.1, fun j w hj => ?_⟩
  by_cases hji : j = i
  · subst hji
    rw [List.getElem?_set_self hi] at hj
    cases hj
    exact ⟨h0.2.2 (j, v) List.mem_cons_self, hc⟩
  · rw [List.getElem?_set_ne (Ne.symm hji)] at hj
    obtain ⟨g1, g2⟩ := h3 j w hj
    have h5 := key [(j, w)] (fun q hq => by rw [List.mem_singleton.mp hq]; exact g1)
    refine ⟨h5.2.2 (j, w) (List.mem_cons_of_mem _ ?_), g2⟩
    rw [List.mem_filter]
    refine ⟨List.mem_cons_self, ?_⟩
    simp [hji, g2]
theorem ah_store {pc' i : Nat} {v : Value} (hi : i < lv.length) (hc : v.category = 1) (hl : lv.set i (some v) = lv')
    (g : ∀ (T : State) (locs : List Loc) (cells slots : Nat) (ls ls' : Array Slot), Stand (ax_p X) (ax_l X) (ax_e X) (ax_R X) (ax_s X) (ax_m X) (ax_a X) (ax_b X) (ax_M X) (ax_c X) T locs cells slots → storeLocals ls i v = some ls' → ∀ t, Steps (ax_p X).tables (ax_e X) (ax_b X) (T.setTop (F0 (ax_m X) pc' ls' st)) t → Steps (ax_p X).tables (ax_e X) (ax_b X) (T.setTop (F0 (ax_m X) pc ls (v :: st))) t)
    (kk : ah_S E X Qf pc' lv' st f) : ah_S E X Qf pc lv (v :: st) f := by
  intro h r n u c hs H locs ls cells slots h1 h2 h3 h4 h5 T hT Xs
  subst hl
  obtain ⟨ls', e', -⟩ := lv_store1 (ls := ls) (nL := lv.length) (l := []) (i := i) (v := v) ⟨h3.1, h3.2.1, fun q hq => by cases hq⟩ hi hc
  obtain ⟨t, a, b⟩ := kk h r n u c hs H locs ls' cells slots h1 h2 (ah_lv_set h3 hi hc e') h4 h5 T hT Xs
  exact ⟨t, g T locs cells slots ls ls' Xs e' t a, b⟩
theorem ah_istore_n (C : ah_Cx E X cc nL own F L) {k : Fin 4} {x : Int32} (hd : decode cc pc = .ok (.istore_n k, 1)) (hi : (k : Nat) < lv.length) (hl : lv.set (k : Nat) (some (.int x)) = lv') (kk : ah_S E X Qf (pc + 1) lv' st f) : ah_S E X Qf pc lv (.int x :: st) f :=
  ah_store hi rfl hl (fun T locs cells slots ls ls' Xs e' t a => by
    have hx := C.1
    have hb := C.2.1
    jvm_step Xs.here [Xs.here.top, ↓top_set Xs.here.top, hx, hb, hd, e']
    exact a) kk
theorem ah_istore (C : ah_Cx E X cc nL own F L) {i : Nat} {x : Int32} (hd : decode cc pc = .ok (.istore i, 2)) (hi : i < lv.length) (hl : lv.set i (some (.int x)) = lv') (kk : ah_S E X Qf (pc + 2) lv' st f) : ah_S E X Qf pc lv (.int x :: st) f :=
  ah_store hi rfl hl (fun T locs cells slots ls ls' Xs e' t a => by
    have hx := C.1
    have hb := C.2.1
    jvm_step Xs.here [Xs.here.top, ↓top_set Xs.here.top, hx, hb, hd, e']
    exact a) kk
theorem ah_astore_n (C : ah_Cx E X cc nL own F L) {k : Fin 4} {x : Option Nat} (hd : decode cc pc = .ok (.astore_n k, 1)) (hi : (k : Nat) < lv.length) (hl : lv.set (k : Nat) (some (va_rf x)) = lv') (kk : ah_S E X Qf (pc + 1) lv' st f) : ah_S E X Qf pc lv (va_rf x :: st) f :=
  ah_store hi (ah_rf_cat x) hl (fun T locs cells slots ls ls' Xs e' t a => by
    have hx := C.1
    have hb := C.2.1
    cases x <;> (simp only [va_rf] at e' a ⊢; jvm_step Xs.here [Xs.here.top, ↓top_set Xs.here.top, hx, hb, hd, e', Value.isRef]; exact a)) kk
theorem ah_astore (C : ah_Cx E X cc nL own F L) {i : Nat} {x : Option Nat} (hd : decode cc pc = .ok (.astore i, 2)) (hi : i < lv.length) (hl : lv.set i (some (va_rf x)) = lv') (kk : ah_S E X Qf (pc + 2) lv' st f) : ah_S E X Qf pc lv (va_rf x :: st) f :=
  ah_store hi (ah_rf_cat x) hl (fun T locs cells slots ls ls' Xs e' t a => by
    have hx := C.1
    have hb := C.2.1
    cases x <;> (simp only [va_rf] at e' a ⊢; jvm_step Xs.here [Xs.here.top, ↓top_set Xs.here.top, hx, hb, hd, e', Value.isRef]; exact a)) kk
theorem ah_iinc (C : ah_Cx E X cc nL own F L) {i : Nat} {d : Int} {x v : Int32} (hd : decode cc pc = .ok (.iinc i d, 3)) (hx0 : lv[i]? = some (some (.int x))) (hv : x + Int32.ofInt d = v) (hl : lv.set i (some (.int v)) = lv') (kk : ah_S E X Qf (pc + 3) lv' st f) : ah_S E X Qf pc lv st f := by
  intro h r n u c hs H locs ls cells slots h1 h2 h3 h4 h5 T hT Xs
  subst hl
  subst hv
  have hi : i < lv.length := (List.getElem?_eq_some_iff.mp hx0).1
  have hg := (h3.2.2 _ _ hx0).1
  obtain ⟨ls', e', -⟩ := lv_store1 (ls := ls) (nL := lv.length) (l := []) (i := i) (v := .int (x + Int32.ofInt d)) ⟨h3.1, h3.2.1, fun q hq => by cases hq⟩ hi rfl
  obtain ⟨t, a, b⟩ := kk h r n u c hs H locs ls' cells slots h1 h2 (ah_lv_set h3 hi rfl e') h4 h5 T hT Xs
  refine ⟨t, ?_, b⟩
  have hx := C.1
  have hb := C.2.1
  jvm_step Xs.here [Xs.here.top, ↓top_set Xs.here.top, hx, hb, hd, hg, e']
  exact a
def ah_mk : List Bool → List (Option Value) → List (Option Value)
  | b :: bs, v :: vs => (match b with | true => v | false => none) :: ah_mk bs vs
  | _, vs => vs.map (fun _ => none)
theorem ah_mk_len : ∀ (bs : List Bool) (vs : List (Option Value)), (ah_mk bs vs).length = vs.length
  | [], [] => rfl
  | [], _ :: _ => by simp [ah_mk]
  | _ :: _, [] => by simp [ah_mk]
  | b :: bs, v :: vs => by simp [ah_mk, ah_mk_len bs vs]
theorem ah_mk_get : ∀ (bs : List Bool) (vs : List (Option Value)) (i : Nat) (v : Value), (ah_mk bs vs)[i]? = some (some v) → vs[i]? = some (some v)
  | [], vs, i, v, h => by
    simp only [ah_mk, List.getElem?_map] at h
    cases hv : vs[i]? with
    | none => rw [hv] at h; cases h
    | some w => rw [hv] at h; cases h
  | _ :: _, [], i, v, h => by simp [ah_mk] at h
  | b :: bs, w :: vs, 0, v, h => by
    cases b with
    | true => simpa [ah_mk] using h
    | false => simp [ah_mk] at h
  | b :: bs, w :: vs, i + 1, v, h => by
    have h' : (ah_mk bs vs)[i]? = some (some v) := by simpa [ah_mk] using h
    simpa using ah_mk_get bs vs i v h'
theorem ah_mask (bs : List Bool) (hl : ah_mk bs lv = lv') (kk : ah_S E X Qf pc lv' st f) : ah_S E X Qf pc lv st f := by
  subst hl
  intro h r n u c hs H locs ls cells slots h1 h2 h3 h4 h5
  refine kk h r n u c hs H locs ls cells slots h1 h2 ⟨by rw [ah_mk_len]; exact h3.1, h3.2.1, fun i v hv => h3.2.2 i v (ah_mk_get bs lv i v hv)⟩ h4 h5
theorem ah_iadd (C : ah_Cx E X cc nL own F L) {x y : Int32} (hd : decode cc pc = .ok (.iadd, 1)) (kk : ah_S E X Qf (pc + 1) lv (.int (x + y) :: st) f) : ah_S E X Qf pc lv (.int y :: .int x :: st) f :=
  ah_go (fun _ _ _ _ _ _ _ k => lv_iadd C.1 C.2.1 hd k) kk
theorem ah_isub (C : ah_Cx E X cc nL own F L) {x y : Int32} (hd : decode cc pc = .ok (.isub, 1)) (kk : ah_S E X Qf (pc + 1) lv (.int (x - y) :: st) f) : ah_S E X Qf pc lv (.int y :: .int x :: st) f :=
  ah_go (fun _ _ _ _ _ _ _ k => lv_isub C.1 C.2.1 hd k) kk
theorem ah_imul (C : ah_Cx E X cc nL own F L) {x y : Int32} (hd : decode cc pc = .ok (.imul, 1)) (kk : ah_S E X Qf (pc + 1) lv (.int (x * y) :: st) f) : ah_S E X Qf pc lv (.int y :: .int x :: st) f :=
  ah_go (fun _ _ _ _ _ _ _ k => lv_imul C.1 C.2.1 hd k) kk
theorem ah_iand (C : ah_Cx E X cc nL own F L) {x y : Int32} (hd : decode cc pc = .ok (.iand, 1)) (kk : ah_S E X Qf (pc + 1) lv (.int (x &&& y) :: st) f) : ah_S E X Qf pc lv (.int y :: .int x :: st) f :=
  ah_go (fun _ _ _ _ _ _ _ k => lv_iand C.1 C.2.1 hd k) kk
theorem ah_ior (C : ah_Cx E X cc nL own F L) {x y : Int32} (hd : decode cc pc = .ok (.ior, 1)) (kk : ah_S E X Qf (pc + 1) lv (.int (x ||| y) :: st) f) : ah_S E X Qf pc lv (.int y :: .int x :: st) f :=
  ah_go (fun _ _ _ _ _ _ _ k => lv_ior C.1 C.2.1 hd k) kk
theorem ah_ixor (C : ah_Cx E X cc nL own F L) {x y : Int32} (hd : decode cc pc = .ok (.ixor, 1)) (kk : ah_S E X Qf (pc + 1) lv (.int (x ^^^ y) :: st) f) : ah_S E X Qf pc lv (.int y :: .int x :: st) f :=
  ah_go (fun _ _ _ _ _ _ _ k => lv_ixor C.1 C.2.1 hd k) kk
theorem ah_ineg (C : ah_Cx E X cc nL own F L) {x : Int32} (hd : decode cc pc = .ok (.ineg, 1)) (kk : ah_S E X Qf (pc + 1) lv (.int (-x) :: st) f) : ah_S E X Qf pc lv (.int x :: st) f :=
  ah_go (fun _ _ _ _ _ _ _ k => lv_ineg C.1 C.2.1 hd k) kk
theorem ah_ishl (C : ah_Cx E X cc nL own F L) {x y : Int32} (hd : decode cc pc = .ok (.ishl, 1)) (kk : ah_S E X Qf (pc + 1) lv (.int (x <<< (y &&& 31)) :: st) f) : ah_S E X Qf pc lv (.int y :: .int x :: st) f :=
  ah_go (fun _ _ _ _ _ _ _ k => lv_ishl C.1 C.2.1 hd k) kk
theorem ah_ishr (C : ah_Cx E X cc nL own F L) {x y : Int32} (hd : decode cc pc = .ok (.ishr, 1)) (kk : ah_S E X Qf (pc + 1) lv (.int (x >>> (y &&& 31)) :: st) f) : ah_S E X Qf pc lv (.int y :: .int x :: st) f :=
  ah_go (fun _ _ _ _ _ _ _ k => lv_ishr C.1 C.2.1 hd k) kk
def ah_ush (x y : Int32) : Int32 := (x.toUInt32 >>> (y.toUInt32 &&& Int32.toUInt32 31)).toInt32
theorem ah_iushr (C : ah_Cx E X cc nL own F L) {x y : Int32} (hd : decode cc pc = .ok (.iushr, 1)) (kk : ah_S E X Qf (pc + 1) lv (.int (ah_ush x y) :: st) f) : ah_S E X Qf pc lv (.int y :: .int x :: st) f :=
  ah_go (fun _ _ _ _ _ _ _ k => lv_iushr C.1 C.2.1 hd rfl k) kk
def ah_chr (x : Int32) : Int32 := (x.toUInt32 % 65536).toInt32
theorem ah_i2c (C : ah_Cx E X cc nL own F L) {x : Int32} (hd : decode cc pc = .ok (.i2c, 1)) (kk : ah_S E X Qf (pc + 1) lv (.int (ah_chr x) :: st) f) : ah_S E X Qf pc lv (.int x :: st) f :=
  ah_go (fun _ _ _ _ _ _ _ k => lv_i2c C.1 C.2.1 hd rfl k) kk
theorem ah_dup (C : ah_Cx E X cc nL own F L) {v : Value} (hd : decode cc pc = .ok (.dup, 1)) (hc : v.category = 1) (kk : ah_S E X Qf (pc + 1) lv (v :: v :: st) f) : ah_S E X Qf pc lv (v :: st) f :=
  ah_go (fun _ _ _ _ _ _ _ k => lv_dup C.1 C.2.1 hd hc k) kk
theorem ah_pop (C : ah_Cx E X cc nL own F L) {v : Value} (hd : decode cc pc = .ok (.pop, 1)) (hc : v.category = 1) (kk : ah_S E X Qf (pc + 1) lv st f) : ah_S E X Qf pc lv (v :: st) f :=
  ah_go (fun _ _ _ _ _ _ _ k => lv_pop C.1 C.2.1 hd hc k) kk
theorem ah_dup_x1 (C : ah_Cx E X cc nL own F L) {v w : Value} (hd : decode cc pc = .ok (.dup_x1, 1)) (hc : v.category = 1) (hc2 : w.category = 1) (kk : ah_S E X Qf (pc + 1) lv (v :: w :: v :: st) f) : ah_S E X Qf pc lv (v :: w :: st) f :=
  ah_go (fun _ _ _ _ _ _ _ k => lv_dup_x1 C.1 C.2.1 hd hc hc2 k) kk
theorem ah_dup2 (C : ah_Cx E X cc nL own F L) {v w : Value} (hd : decode cc pc = .ok (.dup2, 1)) (hc : v.category = 1) (hc2 : w.category = 1) (kk : ah_S E X Qf (pc + 1) lv (v :: w :: v :: w :: st) f) : ah_S E X Qf pc lv (v :: w :: st) f :=
  ah_go (fun _ _ _ _ _ _ _ k => lv_dup2_11 C.1 C.2.1 hd hc hc2 k) kk
theorem ah_goto (C : ah_Cx E X cc nL own F L) {off : Int} {tgt : Nat} (hd : decode cc pc = .ok (.goto off, 3)) (ht : (pc : Int) + off = (tgt : Int)) (kk : ah_S E X Qf tgt lv st f) : ah_S E X Qf pc lv st f :=
  ah_go (fun _ _ _ _ _ _ _ k => lv_goto C.1 C.2.1 hd ht k) kk
theorem ah_br {P : Prop} [hP : Decidable P] {tgt nxt : Nat} {st0 : List Value} {A B : ahM ρ} (g : ∀ (H : Heap) (locs : List Loc) (cells slots : Nat) (Q : State → Prop) (ls : Array Slot), (P → ah_W X H locs cells slots Q (F0 (ax_m X) tgt ls st)) → (¬ P → ah_W X H locs cells slots Q (F0 (ax_m X) nxt ls st)) → ah_W X H locs cells slots Q (F0 (ax_m X) pc ls st0))
    (kt : P → ah_S E X Qf tgt lv st A) (kf : ¬ P → ah_S E X Qf nxt lv st B) : ah_S E X Qf pc lv st0 (if P then A else B) := by
  intro h r n u c hs H locs ls cells slots h1 h2 h3 h4 h5
  refine g H locs cells slots _ ls (fun hp => ?_) (fun hp => ?_)
  · rw [if_pos hp] at hs
    exact kt hp h r n u c hs H locs ls cells slots h1 h2 h3 h4 h5
  · rw [if_neg hp] at hs
    exact kf hp h r n u c hs H locs ls cells slots h1 h2 h3 h4 h5
theorem ah_if_eq (C : ah_Cx E X cc nL own F L) {x : Int32} {off : Int} {tgt : Nat} {A B : ahM ρ} (hd : decode cc pc = .ok (.ifCond .eq off, 3)) (ht : (pc : Int) + off = (tgt : Int)) (kt : x = 0 → ah_S E X Qf tgt lv st A) (kf : ¬ x = 0 → ah_S E X Qf (pc + 3) lv st B) : ah_S E X Qf pc lv (.int x :: st) (if x = 0 then A else B) :=
  ah_br (fun _ _ _ _ _ _ a b => lv_if_eq C.1 C.2.1 hd ht a b) kt kf
theorem ah_if_ne (C : ah_Cx E X cc nL own F L) {x : Int32} {off : Int} {tgt : Nat} {A B : ahM ρ} (hd : decode cc pc = .ok (.ifCond .ne off, 3)) (ht : (pc : Int) + off = (tgt : Int)) (kt : ¬ x = 0 → ah_S E X Qf tgt lv st A) (kf : x = 0 → ah_S E X Qf (pc + 3) lv st B) : ah_S E X Qf pc lv (.int x :: st) (if x = 0 then B else A) :=
  ah_br (fun _ _ _ _ _ _ a b => lv_if_ne C.1 C.2.1 hd ht b a) kf kt
theorem ah_if_lt (C : ah_Cx E X cc nL own F L) {x : Int32} {off : Int} {tgt : Nat} {A B : ahM ρ} (hd : decode cc pc = .ok (.ifCond .lt off, 3)) (ht : (pc : Int) + off = (tgt : Int)) (kt : x < 0 → ah_S E X Qf tgt lv st A) (kf : ¬ x < 0 → ah_S E X Qf (pc + 3) lv st B) : ah_S E X Qf pc lv (.int x :: st) (if x < 0 then A else B) :=
  ah_br (fun _ _ _ _ _ _ a b => lv_if_lt C.1 C.2.1 hd ht a b) kt kf
theorem ah_if_ge (C : ah_Cx E X cc nL own F L) {x : Int32} {off : Int} {tgt : Nat} {A B : ahM ρ} (hd : decode cc pc = .ok (.ifCond .ge off, 3)) (ht : (pc : Int) + off = (tgt : Int)) (kt : 0 ≤ x → ah_S E X Qf tgt lv st A) (kf : ¬ 0 ≤ x → ah_S E X Qf (pc + 3) lv st B) : ah_S E X Qf pc lv (.int x :: st) (if 0 ≤ x then A else B) :=
  ah_br (fun _ _ _ _ _ _ a b => lv_if_ge C.1 C.2.1 hd ht a b) kt kf
theorem ah_if_gt (C : ah_Cx E X cc nL own F L) {x : Int32} {off : Int} {tgt : Nat} {A B : ahM ρ} (hd : decode cc pc = .ok (.ifCond .gt off, 3)) (ht : (pc : Int) + off = (tgt : Int)) (kt : 0 < x → ah_S E X Qf tgt lv st A) (kf : ¬ 0 < x → ah_S E X Qf (pc + 3) lv st B) : ah_S E X Qf pc lv (.int x :: st) (if 0 < x then A else B) :=
  ah_br (fun _ _ _ _ _ _ a b => lv_if_gt C.1 C.2.1 hd ht a b) kt kf
theorem ah_if_le (C : ah_Cx E X cc nL own F L) {x : Int32} {off : Int} {tgt : Nat} {A B : ahM ρ} (hd : decode cc pc = .ok (.ifCond .le off, 3)) (ht : (pc : Int) + off = (tgt : Int)) (kt : x ≤ 0 → ah_S E X Qf tgt lv st A) (kf : ¬ x ≤ 0 → ah_S E X Qf (pc + 3) lv st B) : ah_S E X Qf pc lv (.int x :: st) (if x ≤ 0 then A else B) :=
  ah_br (fun _ _ _ _ _ _ a b => lv_if_le C.1 C.2.1 hd ht a b) kt kf
theorem ah_icmp_eq (C : ah_Cx E X cc nL own F L) {x y : Int32} {off : Int} {tgt : Nat} {A B : ahM ρ} (hd : decode cc pc = .ok (.if_icmp .eq off, 3)) (ht : (pc : Int) + off = (tgt : Int)) (kt : x = y → ah_S E X Qf tgt lv st A) (kf : ¬ x = y → ah_S E X Qf (pc + 3) lv st B) : ah_S E X Qf pc lv (.int y :: .int x :: st) (if x = y then A else B) :=
  ah_br (fun _ _ _ _ _ _ a b => lv_icmp_eq C.1 C.2.1 hd ht a b) kt kf
theorem ah_icmp_ne (C : ah_Cx E X cc nL own F L) {x y : Int32} {off : Int} {tgt : Nat} {A B : ahM ρ} (hd : decode cc pc = .ok (.if_icmp .ne off, 3)) (ht : (pc : Int) + off = (tgt : Int)) (kt : ¬ x = y → ah_S E X Qf tgt lv st A) (kf : x = y → ah_S E X Qf (pc + 3) lv st B) : ah_S E X Qf pc lv (.int y :: .int x :: st) (if x = y then B else A) :=
  ah_br (fun _ _ _ _ _ _ a b => lv_icmp_ne C.1 C.2.1 hd ht b a) kf kt
theorem ah_icmp_lt (C : ah_Cx E X cc nL own F L) {x y : Int32} {off : Int} {tgt : Nat} {A B : ahM ρ} (hd : decode cc pc = .ok (.if_icmp .lt off, 3)) (ht : (pc : Int) + off = (tgt : Int)) (kt : x < y → ah_S E X Qf tgt lv st A) (kf : ¬ x < y → ah_S E X Qf (pc + 3) lv st B) : ah_S E X Qf pc lv (.int y :: .int x :: st) (if x < y then A else B) :=
  ah_br (fun _ _ _ _ _ _ a b => lv_icmp_lt C.1 C.2.1 hd ht a b) kt kf
theorem ah_icmp_ge (C : ah_Cx E X cc nL own F L) {x y : Int32} {off : Int} {tgt : Nat} {A B : ahM ρ} (hd : decode cc pc = .ok (.if_icmp .ge off, 3)) (ht : (pc : Int) + off = (tgt : Int)) (kt : y ≤ x → ah_S E X Qf tgt lv st A) (kf : ¬ y ≤ x → ah_S E X Qf (pc + 3) lv st B) : ah_S E X Qf pc lv (.int y :: .int x :: st) (if y ≤ x then A else B) :=
  ah_br (fun _ _ _ _ _ _ a b => lv_icmp_ge C.1 C.2.1 hd ht a b) kt kf
theorem ah_icmp_gt (C : ah_Cx E X cc nL own F L) {x y : Int32} {off : Int} {tgt : Nat} {A B : ahM ρ} (hd : decode cc pc = .ok (.if_icmp .gt off, 3)) (ht : (pc : Int) + off = (tgt : Int)) (kt : y < x → ah_S E X Qf tgt lv st A) (kf : ¬ y < x → ah_S E X Qf (pc + 3) lv st B) : ah_S E X Qf pc lv (.int y :: .int x :: st) (if y < x then A else B) :=
  ah_br (fun _ _ _ _ _ _ a b => lv_icmp_gt C.1 C.2.1 hd ht a b) kt kf
theorem ah_icmp_le (C : ah_Cx E X cc nL own F L) {x y : Int32} {off : Int} {tgt : Nat} {A B : ahM ρ} (hd : decode cc pc = .ok (.if_icmp .le off, 3)) (ht : (pc : Int) + off = (tgt : Int)) (kt : x ≤ y → ah_S E X Qf tgt lv st A) (kf : ¬ x ≤ y → ah_S E X Qf (pc + 3) lv st B) : ah_S E X Qf pc lv (.int y :: .int x :: st) (if x ≤ y then A else B) :=
  ah_br (fun _ _ _ _ _ _ a b => lv_icmp_le C.1 C.2.1 hd ht a b) kt kf
theorem ah_acmp_eq (C : ah_Cx E X cc nL own F L) {x y : Option Nat} {off : Int} {tgt : Nat} {A B : ahM ρ} (hd : decode cc pc = .ok (.if_acmp .eq off, 3)) (ht : (pc : Int) + off = (tgt : Int)) (kt : x = y → ah_S E X Qf tgt lv st A) (kf : ¬ x = y → ah_S E X Qf (pc + 3) lv st B) : ah_S E X Qf pc lv (va_rf y :: va_rf x :: st) (if x = y then A else B) :=
  ah_br (fun _ _ _ _ _ _ a b => lv_acmp_eq C.1 C.2.1 hd ht a b) kt kf
theorem ah_acmp_ne (C : ah_Cx E X cc nL own F L) {x y : Option Nat} {off : Int} {tgt : Nat} {A B : ahM ρ} (hd : decode cc pc = .ok (.if_acmp .ne off, 3)) (ht : (pc : Int) + off = (tgt : Int)) (kt : ¬ x = y → ah_S E X Qf tgt lv st A) (kf : x = y → ah_S E X Qf (pc + 3) lv st B) : ah_S E X Qf pc lv (va_rf y :: va_rf x :: st) (if x = y then B else A) :=
  ah_br (fun _ _ _ _ _ _ a b => lv_acmp_ne C.1 C.2.1 hd ht b a) kf kt
theorem ah_ifnull (C : ah_Cx E X cc nL own F L) {x : Option Nat} {off : Int} {tgt : Nat} {A B : ahM ρ} (hd : decode cc pc = .ok (.ifnull off, 3)) (ht : (pc : Int) + off = (tgt : Int)) (kt : x = none → ah_S E X Qf tgt lv st A) (kf : ¬ x = none → ah_S E X Qf (pc + 3) lv st B) : ah_S E X Qf pc lv (va_rf x :: st) (if x = none then A else B) :=
  ah_br (fun _ _ _ _ _ _ a b => by
    cases x with
    | none => exact lv_ifnullN C.1 C.2.1 hd ht (a rfl)
    | some q => exact lv_ifnull C.1 C.2.1 hd (b (fun z => by cases z))) kt kf
theorem ah_ifnonnull (C : ah_Cx E X cc nL own F L) {x : Option Nat} {off : Int} {tgt : Nat} {A B : ahM ρ} (hd : decode cc pc = .ok (.ifnonnull off, 3)) (ht : (pc : Int) + off = (tgt : Int)) (kt : ¬ x = none → ah_S E X Qf tgt lv st A) (kf : x = none → ah_S E X Qf (pc + 3) lv st B) : ah_S E X Qf pc lv (va_rf x :: st) (if x = none then B else A) :=
  ah_br (fun _ _ _ _ _ _ a b => by
    cases x with
    | none => exact lv_ifnonnullN C.1 C.2.1 hd (a rfl)
    | some q => exact lv_ifnonnull C.1 C.2.1 hd ht (b (fun z => by cases z))) kf kt
end AHX
end
section
section AHG
variable {E : ahE} {X : ahX} {ρ : Type} {Qf : ρ → ahH → State → Prop} {cc : ByteArray} {nL : Nat} {own : String} {F L pc : Nat} {lv : List (Option Value)} {st : List Value}
def ah_LF (own : String) (idx : Nat) (q : vw_C) (k : Nat) : Prop := Cond.fieldLink own idx (q.2.1 k).1 (q.2.1 k).2.1 (q.2.1 k).2.2.1 ∈ pg_T ∨ ∃ host, Cond.fieldLinkNest own idx (q.2.1 k).1 (q.2.1 k).2.1 (q.2.1 k).2.2.1 host ∈ pg_N
theorem ah_uws {q : vw_C} (h : ∀ k, k < q.2.2 → u_lay q.1 q.2.1 k ∈ pg_T) : ∀ w ∈ u_ws q.1 q.2.1 q.2.2, w ∈ pg_T := by
  intro w hw
  obtain ⟨k, hk, rfl⟩ := List.mem_map.mp hw
  exact h k (List.mem_range.mp hk)
theorem ah_rd_some {α : Type} {g : ahH → Option α} {f : α → ahM ρ} {h : ahH} {z : ρ × Nat × Nat × ahC} (hs : ah_rd g f h = some z) : ∃ a, g h = some a ∧ f a h = some z := by
  unfold ah_rd at hs
  cases hg : g h with
  | none => rw [hg] at hs; cases hs
  | some a => rw [hg] at hs; exact ⟨a, rfl, hs⟩
theorem ah_wr_some {g : ahH → Option ahC} {f : ahM ρ} {h : ahH} {z : ρ × Nat × Nat × ahC} (hs : ah_wr g f h = some z) : ∃ c, g h = some c ∧ f (h.1, h.2.1, c) = some z := by
  unfold ah_wr at hs
  cases hg : g h with
  | none => rw [hg] at hs; cases hs
  | some a => rw [hg] at hs; exact ⟨a, rfl, hs⟩
theorem ah_bnd_some {α : Type} {g : ahM α} {f : α → ahM ρ} {h : ahH} {r : ρ} {n u : Nat} {c : ahC} (hs : ah_bnd g f h = some (r, n, u, c)) : ∃ a n1 u1 c1 n2 u2, g h = some (a, n1, u1, c1) ∧ f a (ah_nx h n1 u1 c1) = some (r, n2, u2, c) ∧ n = n1 + n2 ∧ u = u1 + u2 := by
  unfold ah_bnd at hs
  cases hg : g h with
  | none => rw [hg] at hs; cases hs
  | some z =>
    obtain ⟨a, n1, u1, c1⟩ := z
    rw [hg] at hs
    dsimp only at hs
    cases hf : f a (ah_nx h n1 u1 c1) with
    | none => rw [hf] at hs; cases hs
    | some y =>
      obtain ⟨b, n2, u2, c2⟩ := y
      rw [hf] at hs
      cases hs
      exact ⟨a, n1, u1, c1, n2, u2, rfl, hf, rfl, rfl⟩
theorem ah_gI_some {ci : Nat} {r : Option Nat} {k : Nat} {h : ahH} {x : Int32} (e : ah_gI ci r k h = some x) : ∃ a, r = some a ∧ ah_kd h a = ci + 1 ∧ x = ah_I h a k := by
  cases r with
  | none => cases e
  | some a =>
    unfold ah_gI at e
    dsimp only at e
    split at e
    next hk => cases e; exact ⟨a, rfl, hk, rfl⟩
    next => cases e
theorem ah_gR_some {ci : Nat} {r : Option Nat} {k : Nat} {h : ahH} {x : Option Nat} (e : ah_gR ci r k h = some x) : ∃ a, r = some a ∧ ah_kd h a = ci + 1 ∧ x = ah_P h a k := by
  cases r with
  | none => cases e
  | some a =>
    unfold ah_gR at e
    dsimp only at e
    split at e
    next hk => cases e; exact ⟨a, rfl, hk, rfl⟩
    next => cases e
theorem ah_getV (C : ah_Cx E X cc nL own F L) {ci k idx a : Nat} {q : vw_C} (hq : pg_cls[ci]? = some q) (hk : k < q.2.2) (hl : ah_LF own idx q k) (hd : decode cc pc = .ok (.getfield idx, 3)) {h : ahH} (hkd : ah_kd h a = ci + 1) {H : Heap} {locs : List Loc} {ls : Array Slot} {cells slots : Nat} {Q : State → Prop} (hR : ah_Rel E h H)
    (kk : ah_W X H locs cells slots Q (F0 (ax_m X) (pc + 3) ls (ah_fv (ah_isR ci k) (ah_I h a k) (ah_P h a k) :: st))) : ah_W X H locs cells slots Q (F0 (ax_m X) pc ls (.ref a :: st)) := by
  obtain ⟨hx, hb, -, hown, hts, hK, -, -⟩ := C
  obtain ⟨-, hin, -⟩ := pg_ok ci q hq
  obtain ⟨cell, q1, q2, q3, q4⟩ := (hR.2.2.2.2 a).1 ci q hkd hq
  obtain ⟨hS, hfc, kC, hkC, hkind⟩ := hK.1 ci q hq
  obtain ⟨cf, kf, fi, fd, hi, hsl⟩ := hS k hk
  have hst := (u_facts hfc hkC (u_lays hts (ah_uws hin) hk) hi).1
  rcases hl with hl | ⟨host, hl⟩
  · refine W.getf hx hb hown (hts _ hl) hi hst q1 (by rw [q3]; exact fun h => by cases h) (v := ah_fv (ah_isR ci k) (ah_I h a k) (ah_P h a k)) ?_ rfl rfl hd kk
    rw [hsl]
    exact q4 k hk
  · refine va_Wgetf hx hb hown (va_Nw.use rfl (hK.2.2.1 _ hl)) hi hst q1 (by rw [q3]; exact fun h => by cases h) (v := ah_fv (ah_isR ci k) (ah_I h a k) (ah_P h a k)) ?_ rfl rfl hd kk
    rw [hsl]
    exact q4 k hk
theorem ah_getI (C : ah_Cx E X cc nL own F L) {ci k idx : Nat} {q : vw_C} {r : Option Nat} {f : Int32 → ahM ρ} (hq : pg_cls[ci]? = some q) (hk : k < q.2.2) (hR : ah_isR ci k = false) (hl : ah_LF own idx q k) (hd : decode cc pc = .ok (.getfield idx, 3)) (kk : ∀ x, ah_S E X Qf (pc + 3) lv (.int x :: st) (f x)) : ah_S E X Qf pc lv (va_rf r :: st) (ah_rd (ah_gI ci r k) f) := by
  intro h r0 n u c hs H locs ls cells slots h1 h2 h3 h4 h5
  obtain ⟨x, e1, e2⟩ := ah_rd_some hs
  obtain ⟨a, rfl, hkd, rfl⟩ := ah_gI_some e1
  refine ah_getV C hq hk hl hd hkd h1 ?_
  rw [hR]
  exact kk _ h r0 n u c e2 H locs ls cells slots h1 h2 h3 h4 h5
theorem ah_getR (C : ah_Cx E X cc nL own F L) {ci k idx : Nat} {q : vw_C} {r : Option Nat} {f : Option Nat → ahM ρ} (hq : pg_cls[ci]? = some q) (hk : k < q.2.2) (hR : ah_isR ci k = true) (hl : ah_LF own idx q k) (hd : decode cc pc = .ok (.getfield idx, 3)) (kk : ∀ x, ah_S E X Qf (pc + 3) lv (va_rf x :: st) (f x)) : ah_S E X Qf pc lv (va_rf r :: st) (ah_rd (ah_gR ci r k) f) := by
  intro h r0 n u c hs H locs ls cells slots h1 h2 h3 h4 h5
  obtain ⟨x, e1, e2⟩ := ah_rd_some hs
  obtain ⟨a, rfl, hkd, rfl⟩ := ah_gR_some e1
  refine ah_getV C hq hk hl hd hkd h1 ?_
  rw [hR]
  exact kk _ h r0 n u c e2 H locs ls cells slots h1 h2 h3 h4 h5
theorem ah_apart {s : State} {args : Array Value} {ci : Nat} {q : vw_C} (hq : pg_cls[ci]? = some q) (hts : ∀ w ∈ pg_T, w.before args s = true) (hK : ah_K E s) : ∀ x y, x < q.2.2 → y < q.2.2 → x ≠ y → ae_I E ci x ≠ ae_I E ci y := by
  intro x y hx hy hne
  obtain ⟨-, hin, hty, hnm, -⟩ := pg_ok ci q hq
  obtain ⟨hS, -⟩ := hK.1 ci q hq
  obtain ⟨_, _, _, fa, hia, ea⟩ := hS x hx
  obtain ⟨_, _, _, fb, hib, eb⟩ := hS y hy
  rw [← ea, ← eb]
  refine u_apart (u_lays hts (ah_uws hin) hx) (u_lays hts (ah_uws hin) hy) hia hib ?_
  rw [(State.fieldFound?_type hia (hty x hx)).1, (State.fieldFound?_type hib (hty y hy)).1]
  exact hnm x hx y hy hne
theorem ah_putV (C : ah_Cx E X cc nL own F L) {ci k idx a : Nat} {q : vw_C} (hq : pg_cls[ci]? = some q) (hk : k < q.2.2) (hl : ah_LF own idx q k) (hfin : (q.2.1 k).2.2.2 = false ∨ ((q.2.1 k).2.2.2 = true ∧ (ax_M X).name = "<init>" ∧ (q.2.1 k).1 = own ∧ Cond.fieldLink own idx (q.2.1 k).1 (q.2.1 k).2.1 (q.2.1 k).2.2.1 ∈ pg_T)) {v : Value} (hn : narrow (ah_ty ci k) v = v) (hfit : fits (ah_ty ci k) v = true) (hd : decode cc pc = .ok (.putfield idx, 3)) {h : ahH} (hkd : ah_kd h a = ci + 1) {I1 : Nat → Nat → Int32} {P1 : Nat → Nat → Option Nat} (hI : ∀ b, b ≠ a → I1 b = ah_I h b) (hP : ∀ b, b ≠ a → P1 b = ah_P h b) (hV : ∀ j, j < q.2.2 → ah_fv (ah_isR ci j) (I1 a j) (P1 a j) = if j = k then v else ah_fv (ah_isR ci j) (ah_I h a j) (ah_P h a j)) {H : Heap} {locs : List Loc} {ls : Array Slot} {cells slots : Nat} {Q : State → Prop} (hR : ah_Rel E h H) (hlo : ∀ q ∈ locs, ae_B E ≤ q.base)
    (kk : ∀ (H1 : Heap) (locs1 : List Loc), ah_Rel E (h.1, h.2.1, h.2.2.1, I1, P1) H1 → (∀ q ∈ locs1, ae_B E ≤ q.base) → ah_W X H1 locs1 cells slots Q (F0 (ax_m X) (pc + 3) ls st)) : ah_W X H locs cells slots Q (F0 (ax_m X) pc ls (v :: .ref a :: st)) := by
  obtain ⟨hx, hb, -, hown, hts, hK, -, -⟩ := C
  have hap := ah_apart hq hts hK
  obtain ⟨hci, hin, hty, hnm, -⟩ := pg_ok ci q hq
  obtain ⟨cell, q1, q2, q3, q4⟩ := (hR.2.2.2.2 a).1 ci q hkd hq
  obtain ⟨hS, hfc, kC, hkC, hkind⟩ := hK.1 ci q hq
  obtain ⟨cf, kf, fi, fd, hi, hsl⟩ := hS k hk
  have hlay := hts _ (hin k hk)
  have hst := (u_facts hfc hkC (u_lays hts (ah_uws hin) hk) hi).1
  have hBa := hR.2.2.2.1 a (by omega) (by omega)
  have fin : ∀ H' : Heap, H'[a]? = some (cell.setSlot fd.slot v) → H'.size = H.size → (∀ q, q ≠ a → H'[q]? = H[q]?) → ah_W X H' (locs ++ [⟨a, fd.slot⟩]) cells slots Q (F0 (ax_m X) (pc + 3) ls st) := by
    intro H' e1 e2 e3
    rw [hsl] at e1 ⊢
    refine kk H' _ (hR.obj hci hkd hq e2 e3 hI hP (t_OB.to (V := updV (fun j => ah_fv (ah_isR ci j) (ah_I h a j) (ah_P h a j)) k v) ⟨_, e1, q2, q3, t_set q4 hap hk v⟩ (fun j hj => ?_))) (fun z hz => ?_)
    · show updV _ k v j = ah_fv (ah_isR ci j) (I1 a j) (P1 a j)
      rw [hV j hj]
      rfl
    · rcases List.mem_append.mp hz with hz | hz
      · exact hlo z hz
      · rw [List.mem_singleton.mp hz]
        exact hBa.1
  unfold u_lay at hlay
  rcases hfin with hfin | ⟨hfin, hin2, hdecl, hl2⟩
  · rw [if_neg (by rw [hfin]; decide)] at hlay
    have h6 := u_store hfc hkC hkind hlay hi (hty k hk) hn hfit
    rcases hl with hl | ⟨host, hl⟩
    · exact W.putK hx hb (f := fd) ⟨hown, hts _ hl, ⟨_, _, _, hi⟩, hst⟩ (by rw [q2]; exact h6) q1 q3 (by rw [hsl]; exact k2_hasslot (q4 k hk)) rfl rfl hd fin
    · exact va_WputK hx hb (f := fd) hown (va_Nw.use rfl (hK.2.2.1 _ hl)) hi hst (by rw [q2]; exact h6) q1 q3 (by rw [hsl]; exact k2_hasslot (q4 k hk)) rfl rfl hd fin
  · rw [if_pos hfin] at hlay
    have hcf : (ax_m X).cls = cf := by
      obtain ⟨_, _, c', _, _, _, -, -, hf', -, -, -, hown2, -⟩ := Cond.laysFinal_spec hlay
      have e1 : c' = cf := by have := hi.symm.trans hf'; simp at this; exact this.1.symm
      rw [hdecl] at hown2
      rw [← e1]; exact Option.some.inj (hown.symm.trans hown2)
    have h6 := u_fits hfc hkC hkind (Or.inr hlay) hi (hty k hk) hn hfit
    exact W.putFinK hx hb hown (hts _ hl2) hi hst hcf hin2 (by rw [q2]; exact h6) q1 q3 (by rw [hsl]; exact k2_hasslot (q4 k hk)) rfl rfl hd fin
def ah_Fin (X : ahX) (own : String) (idx : Nat) (q : vw_C) (k : Nat) : Prop := (q.2.1 k).2.2.2 = false ∨ ((q.2.1 k).2.2.2 = true ∧ (ax_M X).name = "<init>" ∧ (q.2.1 k).1 = own ∧ Cond.fieldLink own idx (q.2.1 k).1 (q.2.1 k).2.1 (q.2.1 k).2.2.1 ∈ pg_T)
theorem ah_putI (C : ah_Cx E X cc nL own F L) {ci k idx : Nat} {q : vw_C} {r : Option Nat} {x : Int32} {f : ahM ρ} (hq : pg_cls[ci]? = some q) (hk : k < q.2.2) (hR : ah_isR ci k = false) (hl : ah_LF own idx q k) (hfin : ah_Fin X own idx q k) (hn : narrow (ah_ty ci k) (.int x) = .int x) (hfit : fits (ah_ty ci k) (.int x) = true) (hd : decode cc pc = .ok (.putfield idx, 3)) (kk : ah_S E X Qf (pc + 3) lv st f) : ah_S E X Qf pc lv (.int x :: va_rf r :: st) (ah_wr (ah_pI ci r k x) f) := by
  intro h r0 n u c hs H locs ls cells slots h1 h2 h3 h4 h5
  obtain ⟨c1, e1, e2⟩ := ah_wr_some hs
  cases r with
  | none => cases e1
  | some a =>
    unfold ah_pI at e1
    dsimp only at e1
    split at e1
    next hkd =>
      cases e1
      refine ah_putV C hq hk hl hfin hn hfit hd hkd (I1 := ah_u2 (ah_I h) a k x) (P1 := ah_P h) (fun b hb => ?_) (fun _ _ => rfl) (fun j hj => ?_) h1 h2 (fun H1 locs1 g1 g2 => ?_)
      · funext j
        simp [ah_u2, hb]
      · by_cases hjk : j = k
        · subst hjk
          rw [if_pos rfl, hR]
          simp [ah_fv, ah_u2]
        · rw [if_neg hjk]
          simp [ah_u2, hjk]
      · exact kk _ r0 n u c e2 H1 locs1 ls cells slots g1 g2 h3 h4 h5
    next => cases e1
theorem ah_putR (C : ah_Cx E X cc nL own F L) {ci k idx : Nat} {q : vw_C} {r x : Option Nat} {f : ahM ρ} (hq : pg_cls[ci]? = some q) (hk : k < q.2.2) (hR : ah_isR ci k = true) (hl : ah_LF own idx q k) (hfin : ah_Fin X own idx q k) (hn : ∀ y, narrow (ah_ty ci k) (va_rf y) = va_rf y) (hfit : ∀ y, fits (ah_ty ci k) (va_rf y) = true) (hd : decode cc pc = .ok (.putfield idx, 3)) (kk : ah_S E X Qf (pc + 3) lv st f) : ah_S E X Qf pc lv (va_rf x :: va_rf r :: st) (ah_wr (ah_pR ci r k x) f) := by
  intro h r0 n u c hs H locs ls cells slots h1 h2 h3 h4 h5
  obtain ⟨c1, e1, e2⟩ := ah_wr_some hs
  cases r with
  | none => cases e1
  | some a =>
    unfold ah_pR at e1
    dsimp only at e1
    split at e1
    next hkd =>
      cases e1
      refine ah_putV C hq hk hl hfin (hn x) (hfit x) hd hkd (I1 := ah_I h) (P1 := ah_u2 (ah_P h) a k x) (fun _ _ => rfl) (fun b hb => ?_) (fun j hj => ?_) h1 h2 (fun H1 locs1 g1 g2 => ?_)
      · funext j
        simp [ah_u2, hb]
      · by_cases hjk : j = k
        · subst hjk
          rw [if_pos rfl, hR]
          simp [ah_fv, ah_u2]
        · rw [if_neg hjk]
          simp [ah_u2, hjk]
      · exact kk _ r0 n u c e2 H1 locs1 ls cells slots g1 g2 h3 h4 h5
    next => cases e1
theorem ah_jlt {j : Nat} {ty : FieldType} (h : pg_aty[j]? = some ty) : j < 100 := Nat.lt_of_lt_of_le (List.getElem?_eq_some_iff.mp h).1 pg_aty_len
theorem ah_cls98 (ci : Nat) (q : vw_C) (h : pg_cls[ci]? = some q) : ci < 98 := (pg_ok ci q h).1
theorem ah_aI_some {j : Nat} {r : Option Nat} {i : Int32} {h : ahH} {x : Int32} (e : ah_aI j r i h = some x) : ∃ a, r = some a ∧ (ah_kd h a = 100 + j ∨ (j = 0 ∧ ah_kd h a = 99)) ∧ vp_in i (ah_ln h a) ∧ x = ah_I h a i.toNatClampNeg := by
  cases r with
  | none => cases e
  | some a =>
    unfold ah_aI at e
    dsimp only at e
    split at e
    next hk => cases e; exact ⟨a, rfl, hk.1, ah_in_iff.mp hk.2, rfl⟩
    next => cases e
theorem ah_iaload (C : ah_Cx E X cc nL own F L) {r : Option Nat} {i : Int32} {f : Int32 → ahM ρ} (hj : pg_aty[0]? = some .int) (hR : ah_aRf 0 = false) (hd : decode cc pc = .ok (.iaload, 1)) (kk : ∀ x, ah_S E X Qf (pc + 1) lv (.int x :: st) (f x)) : ah_S E X Qf pc lv (.int i :: va_rf r :: st) (ah_rd (ah_aI 0 r i) f) := by
  intro h r0 n u c hs H locs ls cells slots h1 h2 h3 h4 h5
  obtain ⟨x, e1, e2⟩ := ah_rd_some hs
  obtain ⟨a, rfl, hkd, hin, rfl⟩ := ah_aI_some e1
  obtain ⟨hx, hb, -, hown, hts, hK, -, -⟩ := C
  have hlt : i.toNatClampNeg < ah_ln h a := Nat.not_le.mp fun q => hin (Or.inr q)
  have k2 := kk _ h r0 n u c e2 H locs ls cells slots h1 h2 h3 h4 h5
  rcases hkd with hkd | ⟨-, hkd⟩
  · have hc := (h1.2.2.2.2 a).2.1 0 hkd (by decide)
    refine W.iald (v := .int (ah_I h a i.toNatClampNeg)) hx hb hc ((hK.2.1 0 _ hj).1 _ _) (fun q => by cases q) (by show ¬ (i < 0 ∨ (arrV _ _ _).slots.size ≤ _); rw [arrV_size]; exact hin) ?_ rfl rfl hd k2
    show (arrV _ _ _).slots[_]? = _
    rw [arrV_read _ _ hlt, hR]
    rfl
  · obtain ⟨g1, g2, g3⟩ := (h1.2.2.2.2 a).2.2.1 hkd
    obtain ⟨scr, x1, x2, x3, x4, x5⟩ := hK.2.2.2.1
    subst g1
    rw [g2] at hin hlt
    refine W.iald (v := .int (ah_I h (ae_b E) i.toNatClampNeg)) hx hb (by rw [h1.2.2.1 _ hK.2.2.2.2.1]; exact x1) x2 x3 (by rw [x4]; exact hin) ?_ rfl rfl hd k2
    rw [x5 _ hlt, g3 _ hlt]
theorem ah_caload (C : ah_Cx E X cc nL own F L) {j : Nat} {r : Option Nat} {i : Int32} {f : Int32 → ahM ρ} (h0 : ¬ j = 0) (hj : pg_aty[j]? = some .char) (hR : ah_aRf j = false) (hd : decode cc pc = .ok (.caload, 1)) (kk : ∀ x, ah_S E X Qf (pc + 1) lv (.int x :: st) (f x)) : ah_S E X Qf pc lv (.int i :: va_rf r :: st) (ah_rd (ah_aI j r i) f) := by
  intro h r0 n u c hs H locs ls cells slots h1 h2 h3 h4 h5
  obtain ⟨x, e1, e2⟩ := ah_rd_some hs
  obtain ⟨a, rfl, hkd, hin, rfl⟩ := ah_aI_some e1
  obtain ⟨hx, hb, -, hown, hts, hK, -, -⟩ := C
  have hlt : i.toNatClampNeg < ah_ln h a := Nat.not_le.mp fun q => hin (Or.inr q)
  have k2 := kk _ h r0 n u c e2 H locs ls cells slots h1 h2 h3 h4 h5
  rcases hkd with hkd | ⟨z, -⟩
  · have hc := (h1.2.2.2.2 a).2.1 j hkd (ah_jlt hj)
    refine W.cald (v := .int (ah_I h a i.toNatClampNeg)) hx hb hc ((hK.2.1 j _ hj).1 _ _) (fun q => by cases q) (by show ¬ (i < 0 ∨ (arrV _ _ _).slots.size ≤ _); rw [arrV_size]; exact hin) ?_ rfl rfl hd k2
    show (arrV _ _ _).slots[_]? = _
    rw [arrV_read _ _ hlt, hR]
    rfl
  · exact absurd z h0
theorem ah_zaload (C : ah_Cx E X cc nL own F L) {j : Nat} {r : Option Nat} {i : Int32} {f : Int32 → ahM ρ} (h0 : ¬ j = 0) (hj : pg_aty[j]? = some .boolean) (hR : ah_aRf j = false) (hd : decode cc pc = .ok (.baload, 1)) (kk : ∀ x, ah_S E X Qf (pc + 1) lv (.int x :: st) (f x)) : ah_S E X Qf pc lv (.int i :: va_rf r :: st) (ah_rd (ah_aI j r i) f) := by
  intro h r0 n u c hs H locs ls cells slots h1 h2 h3 h4 h5
  obtain ⟨x, e1, e2⟩ := ah_rd_some hs
  obtain ⟨a, rfl, hkd, hin, rfl⟩ := ah_aI_some e1
  obtain ⟨hx, hb, -, hown, hts, hK, -, -⟩ := C
  have hlt : i.toNatClampNeg < ah_ln h a := Nat.not_le.mp fun q => hin (Or.inr q)
  have k2 := kk _ h r0 n u c e2 H locs ls cells slots h1 h2 h3 h4 h5
  rcases hkd with hkd | ⟨z, -⟩
  · have hc := (h1.2.2.2.2 a).2.1 j hkd (ah_jlt hj)
    refine W.zald (v := .int (ah_I h a i.toNatClampNeg)) hx hb hc ((hK.2.1 j _ hj).1 _ _) (fun q => by cases q) (by show ¬ (i < 0 ∨ (arrV _ _ _).slots.size ≤ _); rw [arrV_size]; exact hin) ?_ rfl rfl hd k2
    show (arrV _ _ _).slots[_]? = _
    rw [arrV_read _ _ hlt, hR]
    rfl
  · exact absurd z h0
theorem ah_aaload (C : ah_Cx E X cc nL own F L) {j : Nat} {ty : FieldType} {r : Option Nat} {i : Int32} {f : Option Nat → ahM ρ} (hj : pg_aty[j]? = some ty) (hty : ty.isReference = true) (hR : ah_aRf j = true) (hd : decode cc pc = .ok (.aaload, 1)) (kk : ∀ x, ah_S E X Qf (pc + 1) lv (va_rf x :: st) (f x)) : ah_S E X Qf pc lv (.int i :: va_rf r :: st) (ah_rd (ah_aR j r i) f) := by
  intro h r0 n u c hs H locs ls cells slots h1 h2 h3 h4 h5
  obtain ⟨x, e1, e2⟩ := ah_rd_some hs
  cases r with
  | none => cases e1
  | some a =>
    unfold ah_aR at e1
    dsimp only at e1
    split at e1
    next hk0 =>
      obtain ⟨hkd, hin⟩ := hk0
      have hin := ah_in_iff.mp hin
      cases e1
      obtain ⟨hx, hb, -, hown, hts, hK, -, -⟩ := C
      have hlt : i.toNatClampNeg < ah_ln h a := Nat.not_le.mp fun q => hin (Or.inr q)
      have hc := (h1.2.2.2.2 a).2.1 j hkd (ah_jlt hj)
      refine W.aald (v := va_rf (ah_P h a i.toNatClampNeg)) (ty := ty) hx hb hc ((hK.2.1 j _ hj).1 _ _) hty (fun q => by cases q) (by show ¬ (i < 0 ∨ (arrV _ _ _).slots.size ≤ _); rw [arrV_size]; exact hin) ?_ rfl rfl hd (kk _ h r0 n u c e2 H locs ls cells slots h1 h2 h3 h4 h5)
      show (arrV _ _ _).slots[_]? = _
      rw [arrV_read _ _ hlt, hR]
      rfl
    next => cases e1
theorem ah_stored {j a i : Nat} (hj1 : j < 100) {v : Value} {h : ahH} {H : Heap} {locs : List Loc} (hR : ah_Rel E h H) (hlo : ∀ q ∈ locs, ae_B E ≤ q.base) (hkd : ah_kd h a = 100 + j) {I1 : Nat → Nat → Int32} {P1 : Nat → Nat → Option Nat} (hI : ∀ b, b ≠ a → I1 b = ah_I h b) (hP : ∀ b, b ≠ a → P1 b = ah_P h b) (hV : ∀ k, ah_fv (ah_aRf j) (I1 a k) (P1 a k) = if k = i then v else ah_fv (ah_aRf j) (ah_I h a k) (ah_P h a k))
    {H1 : Heap} (e1 : H1[a]? = some ((arrV (ae_A E j) (ah_ln h a) (fun k => ah_fv (ah_aRf j) (ah_I h a k) (ah_P h a k))).setSlot i v)) (e2 : H1.size = H.size) (e3 : ∀ q, q ≠ a → H1[q]? = H[q]?) : ah_Rel E (h.1, h.2.1, h.2.2.1, I1, P1) H1 ∧ ∀ q ∈ locs ++ [⟨a, i⟩], ae_B E ≤ q.base := by
  have hBa := hR.2.2.2.1 a (by omega) (by omega)
  refine ⟨hR.arr hkd hj1 e2 e3 hI hP ?_ ah_cls98, fun z hz => ?_⟩
  · rw [e1, arrV_store]
    congr 2
    funext k
    rw [hV k]
    rfl
  · rcases List.mem_append.mp hz with hz | hz
    · exact hlo z hz
    · rw [List.mem_singleton.mp hz]
      exact hBa.1
theorem ah_sI_some {j : Nat} {r : Option Nat} {i x : Int32} {h : ahH} {c1 : ahC} (e : ah_sI j r i x h = some c1) : ∃ a, r = some a ∧ ah_kd h a = 100 + j ∧ vp_in i (ah_ln h a) ∧ c1 = (h.2.2.1, ah_u2 (ah_I h) a i.toNatClampNeg x, ah_P h) := by
  cases r with
  | none => cases e
  | some a =>
    unfold ah_sI at e
    dsimp only at e
    split at e
    next hk => cases e; exact ⟨a, rfl, hk.1, ah_in_iff.mp hk.2, rfl⟩
    next => cases e
theorem ah_u2_ne {α : Type} {g : Nat → Nat → α} {a k : Nat} {x : α} (b : Nat) (hb : b ≠ a) : ah_u2 g a k x b = g b := by
  funext j
  simp [ah_u2, hb]
theorem ah_u2_I {j a k : Nat} {x : Int32} {h : ahH} (hR : ah_aRf j = false) (i : Nat) : ah_fv (ah_aRf j) (ah_u2 (ah_I h) a k x a i) (ah_P h a i) = if i = k then .int x else ah_fv (ah_aRf j) (ah_I h a i) (ah_P h a i) := by
  by_cases e : i = k
  · subst e
    rw [if_pos rfl, hR]
    simp [ah_fv, ah_u2]
  · rw [if_neg e]
    simp [ah_u2, e]
theorem ah_u2_P {j a k : Nat} {x : Option Nat} {h : ahH} (hR : ah_aRf j = true) (i : Nat) : ah_fv (ah_aRf j) (ah_I h a i) (ah_u2 (ah_P h) a k x a i) = if i = k then va_rf x else ah_fv (ah_aRf j) (ah_I h a i) (ah_P h a i) := by
  by_cases e : i = k
  · subst e
    rw [if_pos rfl, hR]
    simp [ah_fv, ah_u2]
  · rw [if_neg e]
    simp [ah_u2, e]
theorem ah_iastore (C : ah_Cx E X cc nL own F L) {r : Option Nat} {i x : Int32} {f : ahM ρ} (hj : pg_aty[0]? = some .int) (hR : ah_aRf 0 = false) (hd : decode cc pc = .ok (.iastore, 1)) (kk : ah_S E X Qf (pc + 1) lv st f) : ah_S E X Qf pc lv (.int x :: .int i :: va_rf r :: st) (ah_wr (ah_sI 0 r i x) f) := by
  intro h r0 n u c hs H locs ls cells slots h1 h2 h3 h4 h5
  obtain ⟨c1, e1, e2⟩ := ah_wr_some hs
  obtain ⟨a, rfl, hkd, hin, rfl⟩ := ah_sI_some e1
  obtain ⟨hx, hb, -, hown, hts, hK, -, -⟩ := C
  have hc := (h1.2.2.2.2 a).2.1 0 hkd (by decide)
  refine W.iast hx hb hc ((hK.2.1 0 _ hj).1 _ _) (fun q => by cases q) (by show ¬ (i < 0 ∨ (arrV _ _ _).slots.size ≤ _); rw [arrV_size]; exact hin) rfl rfl hd (fun H1 g1 g2 g3 => ?_)
  obtain ⟨w1, w2⟩ := ah_stored (by decide) h1 h2 hkd (I1 := ah_u2 (ah_I h) a i.toNatClampNeg x) (P1 := ah_P h) (fun b hb => ah_u2_ne b hb) (fun _ _ => rfl) (ah_u2_I hR) g1 g2 g3
  exact kk _ r0 n u c e2 H1 _ ls cells slots w1 w2 h3 h4 h5
theorem ah_castore (C : ah_Cx E X cc nL own F L) {j : Nat} {r : Option Nat} {i x : Int32} {f : ahM ρ} (hj : pg_aty[j]? = some .char) (hR : ah_aRf j = false) (hd : decode cc pc = .ok (.castore, 1)) (kk : ah_S E X Qf (pc + 1) lv st f) : ah_S E X Qf pc lv (.int x :: .int i :: va_rf r :: st) (ah_wr (ah_sI j r i (vp_nar .char x)) f) := by
  intro h r0 n u c hs H locs ls cells slots h1 h2 h3 h4 h5
  obtain ⟨c1, e1, e2⟩ := ah_wr_some hs
  obtain ⟨a, rfl, hkd, hin, rfl⟩ := ah_sI_some e1
  obtain ⟨hx, hb, -, hown, hts, hK, -, -⟩ := C
  have hc := (h1.2.2.2.2 a).2.1 j hkd (ah_jlt hj)
  refine W.cast hx hb hc ((hK.2.1 j _ hj).1 _ _) (fun q => by cases q) (by show ¬ (i < 0 ∨ (arrV _ _ _).slots.size ≤ _); rw [arrV_size]; exact hin) rfl rfl hd (fun H1 g1 g2 g3 => ?_)
  obtain ⟨w1, w2⟩ := ah_stored (ah_jlt hj) (v := .int (vp_nar .char x)) h1 h2 hkd (I1 := ah_u2 (ah_I h) a i.toNatClampNeg (vp_nar .char x)) (P1 := ah_P h) (fun b hb => ah_u2_ne b hb) (fun _ _ => rfl) (ah_u2_I hR) g1 g2 g3
  exact kk _ r0 n u c e2 H1 _ ls cells slots w1 w2 h3 h4 h5
theorem ah_zastore (C : ah_Cx E X cc nL own F L) {j : Nat} {r : Option Nat} {i x : Int32} {f : ahM ρ} (hj : pg_aty[j]? = some .boolean) (hR : ah_aRf j = false) (hd : decode cc pc = .ok (.bastore, 1)) (kk : ah_S E X Qf (pc + 1) lv st f) : ah_S E X Qf pc lv (.int x :: .int i :: va_rf r :: st) (ah_wr (ah_sI j r i (vp_nar .boolean x)) f) := by
  intro h r0 n u c hs H locs ls cells slots h1 h2 h3 h4 h5
  obtain ⟨c1, e1, e2⟩ := ah_wr_some hs
  obtain ⟨a, rfl, hkd, hin, rfl⟩ := ah_sI_some e1
  obtain ⟨hx, hb, -, hown, hts, hK, -, -⟩ := C
  have hc := (h1.2.2.2.2 a).2.1 j hkd (ah_jlt hj)
  refine W.zast hx hb hc ((hK.2.1 j _ hj).1 _ _) (fun q => by cases q) (by show ¬ (i < 0 ∨ (arrV _ _ _).slots.size ≤ _); rw [arrV_size]; exact hin) rfl rfl hd (fun H1 g1 g2 g3 => ?_)
  obtain ⟨w1, w2⟩ := ah_stored (ah_jlt hj) (v := .int (vp_nar .boolean x)) h1 h2 hkd (I1 := ah_u2 (ah_I h) a i.toNatClampNeg (vp_nar .boolean x)) (P1 := ah_P h) (fun b hb => ah_u2_ne b hb) (fun _ _ => rfl) (ah_u2_I hR) g1 g2 g3
  exact kk _ r0 n u c e2 H1 _ ls cells slots w1 w2 h3 h4 h5
theorem ah_aastore (C : ah_Cx E X cc nL own F L) {j ci : Nat} {q : vw_C} {r x : Option Nat} {i : Int32} {f : ahM ρ} (hq : pg_cls[ci]? = some q) (hj : pg_aty[j]? = some (.object q.1)) (hR : ah_aRf j = true) (hd : decode cc pc = .ok (.aastore, 1)) (kk : ah_S E X Qf (pc + 1) lv st f) : ah_S E X Qf pc lv (va_rf x :: .int i :: va_rf r :: st) (ah_wr (ah_sR j ci r i x) f) := by
  intro h r0 n u c hs H locs ls cells slots h1 h2 h3 h4 h5
  obtain ⟨c1, e1, e2⟩ := ah_wr_some hs
  cases r with
  | none => cases e1
  | some a =>
    unfold ah_sR at e1
    dsimp only at e1
    split at e1
    next hk0 =>
      obtain ⟨hkd, hin, hkx⟩ := hk0
      have hin := ah_in_iff.mp hin
      cases e1
      obtain ⟨hx, hb, -, hown, hts, hK, -, -⟩ := C
      have hlt : i.toNatClampNeg < ah_ln h a := Nat.not_le.mp fun q => hin (Or.inr q)
      have h0 : ¬ i < 0 := fun q => hin (Or.inl q)
      have hc := (h1.2.2.2.2 a).2.1 j hkd (ah_jlt hj)
      cases x with
      | none =>
        refine va_WaastN (C := q.1) hx hb hc ((hK.2.1 j _ hj).1 _ _) (fun h => by cases h) (by show ¬ (i < 0 ∨ (arrV _ _ _).slots.size ≤ _); rw [arrV_size]; exact hin) rfl rfl hd (fun H1 g1 g2 g3 => ?_)
        obtain ⟨w1, w2⟩ := ah_stored (ah_jlt hj) (v := .null) h1 h2 hkd (I1 := ah_I h) (P1 := ah_u2 (ah_P h) a i.toNatClampNeg none) (fun _ _ => rfl) (fun b hb => ah_u2_ne b hb) (ah_u2_P hR) g1 g2 g3
        exact kk _ r0 n u c e2 H1 _ ls cells slots w1 w2 h3 h4 h5
      | some b =>
        have hkb : ah_kd h b = ci + 1 := by simpa [ah_isK] using hkx
        obtain ⟨cellV, g1, g2, g3, -⟩ := (h1.2.2.2.2 b).1 ci q hkb hq
        have hcls := (hK.1 ci q hq).2
        obtain ⟨kA, comp, k1, k2, k3, -⟩ := (hK.2.1 j _ hj).2
        have hcomp : comp = ae_C E ci := Option.some.inj (k3.symm.trans hcls.1)
        subst hcomp
        obtain ⟨kC, hkC, -⟩ := hcls.2
        refine W.aast hx hb hc (fun q h => by cases h) (fun h => by cases h) k1 k2 rfl hkC ⟨h0, by show _ < (arrV _ _ _).slots.size; rw [arrV_size]; exact hlt⟩ g1 (fun q h => by rw [g3] at h; cases h) (by rw [g2]; exact hkC) (by rw [g2]; exact va_assign hcls) rfl rfl hd (fun H1 y1 y2 y3 => ?_)
        obtain ⟨w1, w2⟩ := ah_stored (ah_jlt hj) (v := .ref b) h1 h2 hkd (I1 := ah_I h) (P1 := ah_u2 (ah_P h) a i.toNatClampNeg (some b)) (fun _ _ => rfl) (fun b hb => ah_u2_ne b hb) (ah_u2_P hR) y1 y2 y3
        exact kk _ r0 n u c e2 H1 _ ls cells slots w1 w2 h3 h4 h5
    next => cases e1
theorem ah_alen (C : ah_Cx E X cc nL own F L) {j : Nat} {ty : FieldType} {r : Option Nat} {f : Int32 → ahM ρ} (hj : pg_aty[j]? = some ty) (hd : decode cc pc = .ok (.arraylength, 1)) (kk : ∀ x, ah_S E X Qf (pc + 1) lv (.int x :: st) (f x)) : ah_S E X Qf pc lv (va_rf r :: st) (ah_rd (ah_al j r) f) := by
  intro h r0 n u c hs H locs ls cells slots h1 h2 h3 h4 h5
  obtain ⟨x, e1, e2⟩ := ah_rd_some hs
  obtain ⟨hx, hb, -, hown, hts, hK, -, -⟩ := C
  cases r with
  | none => cases e1
  | some a =>
    unfold ah_al at e1
    dsimp only at e1
    split at e1
    next hk0 =>
      cases e1
      have k2 := kk _ h r0 n u c e2 H locs ls cells slots h1 h2 h3 h4 h5
      rcases hk0 with hkd | ⟨-, hkd⟩
      · have hc := (h1.2.2.2.2 a).2.1 j hkd (ah_jlt hj)
        exact W.alen (n := Int32.ofNat (ah_ln h a)) hx hb hc ((hK.2.1 j _ hj).1 _ _) (by rw [arrV_size]) rfl rfl hd k2
      · obtain ⟨g1, g2, g3⟩ := (h1.2.2.2.2 a).2.2.1 hkd
        obtain ⟨scr, x1, x2, x3, x4, x5⟩ := hK.2.2.2.1
        subst g1
        exact W.alen (n := Int32.ofNat (ah_ln h (ae_b E))) hx hb (by rw [h1.2.2.1 _ hK.2.2.2.2.1]; exact x1) x2 (by rw [x4, g2]) rfl rfl hd k2
    next => cases e1
theorem ah_newO (C : ah_Cx E X cc nL own F L) {ci idx : Nat} {q : vw_C} {f : Option Nat → ahM ρ} (hq : pg_cls[ci]? = some q) (hl : Cond.classLink own idx q.1 ∈ pg_T) (hi : Cond.instantiable q.1 q.2.2 ∈ pg_T) (hini : Cond.initialized q.1 ∈ pg_T) (hd : decode cc pc = .ok (.new idx, 3)) (kk : ∀ x, ah_S E X Qf (pc + 3) lv (va_rf x :: st) (f x)) : ah_S E X Qf pc lv st (ah_bnd (ah_new ci q.2.2) f) := by
  intro h r0 n u c hs H locs ls cells slots h1 h2 h3 h4 h5
  obtain ⟨a, n1, u1, c1, n2, u2, e1, e2, rfl, rfl⟩ := ah_bnd_some hs
  cases e1
  obtain ⟨hx, hb, -, hown, hts, hK, -, -⟩ := C
  obtain ⟨hci, hin, hty, -, hdef⟩ := pg_ok ci q hq
  have hKn := hK.1 ci q hq
  have hsz : H.size = h.1 := h1.1
  refine W.newcK hx hb hown (hts _ hl) (hts _ hi) (hts _ hini) rfl hd (by omega) (by omega) hKn.2.1 hsz (fun H1 kC hkC y1 z1 o1 => ?_)
  have hb1 := (u_born (ah_ty ci) hts (ah_uws hin) hKn hkC y1 hty).to (fun k hk => hdef k hk)
  have w1 := h1.born (kd := ci + 1) (n := q.2.2) (u := q.2.2) (iv := fun _ => 0) (pv := fun _ => none) (by omega) z1 o1 (fun ci' q' g1 g2 => by
    have e3 : ci' = ci := by omega
    subst e3
    cases hq.symm.trans g2
    exact hb1) (fun j g1 _ => by omega) (fun j g1 => by omega)
  have k2 := kk (some h.1) _ r0 n2 u2 c e2 H1 locs ls (cells + 1) (slots + q.2.2) w1 h2 h3 (by omega) (by omega)
  have e4 : ah_nx (ah_nx h 1 q.2.2 (va_up h.2.2.1 h.1 (ci + 1, q.2.2), va_up (ah_I h) h.1 (fun _ => 0), va_up (ah_P h) h.1 (fun _ => none))) n2 u2 c = ah_nx h (1 + n2) (q.2.2 + u2) c := by
    simp only [ah_nx, Nat.add_assoc]
  rw [e4] at k2
  exact k2
theorem ah_newA (C : ah_Cx E X cc nL own F L) {j : Nat} {atype : ArrayType} {x : Int32} {f : Option Nat → ahM ρ} (hj : pg_aty[j]? = some (newarray.typeOf atype)) (hR : ah_aRf j = false) (hw : Cond.arrayClass (newarray.typeOf atype) ∈ pg_T) (hz : defaultValue (newarray.typeOf atype) = .int 0) (hby : componentBytes (newarray.typeOf atype) ≤ 4) (hd : decode cc pc = .ok (.newarray atype, 2)) (kk : ∀ x, ah_S E X Qf (pc + 2) lv (va_rf x :: st) (f x)) : ah_S E X Qf pc lv (.int x :: st) (ah_bnd (ah_na j x) f) := by
  intro h r0 n u c hs H locs ls cells slots h1 h2 h3 h4 h5
  obtain ⟨a, n1, u1, c1, n2, u2, e1, e2, rfl, rfl⟩ := ah_bnd_some hs
  unfold ah_na at e1
  split at e1
  next hg =>
    obtain ⟨hn, hbig⟩ := hg
    cases e1
    obtain ⟨hx, hb, -, hown, hts, hK, -, -⟩ := C
    have hsz : H.size = h.1 := h1.1
    have hbb : x.toNatClampNeg * componentBytes (newarray.typeOf atype) ≤ 536870912 := by
      have := Nat.mul_le_mul hbig hby
      omega
    refine va_newaK hx hb (hts _ hw) rfl hd rfl hn rfl hbb (by omega) (by omega) hsz (fun H1 cA y1 z1 o1 hAr hNm => ?_)
    have hcA : cA = ae_A E j := by
      have h6 := (hK.2.1 j _ hj).2
      have h7 : (ax_s X).vm.findClass ("[" ++ (newarray.typeOf atype).toString) = some (ae_A E j) := by
        cases atype <;> exact h6
      exact Option.some.inj (hNm.symm.trans h7)
    subst hcA
    have w1 := h1.born (kd := 100 + j) (n := x.toNatClampNeg) (u := x.toNatClampNeg) (iv := fun _ => 0) (pv := fun _ => none) (by omega) z1 o1 (fun ci' q' g1 g2 => by
      have := ah_cls98 ci' q' g2
      omega) (fun j' g1 _ => by
      have e3 : j' = j := by omega
      subst e3
      rw [y1, hz, hR]
      rfl) (fun j' g1 => by have := ah_jlt hj; omega)
    have k2 := kk (some h.1) _ r0 n2 u2 c e2 H1 locs ls (cells + 1) (slots + x.toNatClampNeg) w1 h2 h3 (by omega) (by omega)
    have e4 : ah_nx (ah_nx h 1 x.toNatClampNeg (va_up h.2.2.1 h.1 (100 + j, x.toNatClampNeg), va_up (ah_I h) h.1 (fun _ => 0), va_up (ah_P h) h.1 (fun _ => none))) n2 u2 c = ah_nx h (1 + n2) (x.toNatClampNeg + u2) c := by
      simp only [ah_nx, Nat.add_assoc]
    rw [e4] at k2
    exact k2
  next => cases e1
theorem ah_newQ (C : ah_Cx E X cc nL own F L) {j idx : Nat} {nm : String} {x : Int32} {f : Option Nat → ahM ρ} (hj : pg_aty[j]? = some (.object nm)) (hR : ah_aRf j = true) (hl : Cond.classLink own idx nm ∈ pg_T) (hw : Cond.arrayOver (.object nm) ∈ pg_N) (hd : decode cc pc = .ok (.anewarray idx, 3)) (kk : ∀ x, ah_S E X Qf (pc + 3) lv (va_rf x :: st) (f x)) : ah_S E X Qf pc lv (.int x :: st) (ah_bnd (ah_na j x) f) := by
  intro h r0 n u c hs H locs ls cells slots h1 h2 h3 h4 h5
  obtain ⟨a, n1, u1, c1, n2, u2, e1, e2, rfl, rfl⟩ := ah_bnd_some hs
  unfold ah_na at e1
  split at e1
  next hg =>
    obtain ⟨hn, hbig⟩ := hg
    cases e1
    obtain ⟨hx, hb, -, hown, hts, hK, -, -⟩ := C
    have hsz : H.size = h.1 := h1.1
    refine W.anew hx hb hown (hts _ hl) (va_AO.use (hK.2.2.1 _ hw)) rfl hd rfl hn (by omega) (by omega) (by omega) (fun cA kA comp f1 f2 f3 f4 => ?_)
    generalize hH1 : H.push ({ cls := cA, slots := Array.replicate x.toNatClampNeg .null, vm := .none } : Cell) = H1
    have z1 : H1.size = h.1 + 1 := by rw [← hH1, Array.size_push, hsz]
    have y1 : H1[h.1]? = some (arrV cA x.toNatClampNeg (fun _ => .null)) := by rw [← hH1, ← hsz, Array.getElem?_push_size, ← arrV_new]
    have o1 : ∀ q : Nat, q < h.1 → H1[q]? = H[q]? := fun q hq => by rw [← hH1, Array.getElem?_push, if_neg (by omega)]
    have hcA : cA = ae_A E j := by
      obtain ⟨kA', comp', k1, k2, k3, k4⟩ := (hK.2.1 j _ hj).2
      exact Option.some.inj (f1.symm.trans k4)
    subst hcA
    have w1 := h1.born (kd := 100 + j) (n := x.toNatClampNeg) (u := x.toNatClampNeg) (iv := fun _ => 0) (pv := fun _ => none) (by omega) z1 o1 (fun ci' q' g1 g2 => by
      have := ah_cls98 ci' q' g2
      omega) (fun j' g1 _ => by
      have e3 : j' = j := by omega
      subst e3
      rw [y1, hR]
      rfl) (fun j' g1 => by have := ah_jlt hj; omega)
    have k2 := kk (some h.1) _ r0 n2 u2 c e2 H1 locs ls (cells + 1) (slots + x.toNatClampNeg) w1 h2 h3 (by omega) (by omega)
    have e4 : ah_nx (ah_nx h 1 x.toNatClampNeg (va_up h.2.2.1 h.1 (100 + j, x.toNatClampNeg), va_up (ah_I h) h.1 (fun _ => 0), va_up (ah_P h) h.1 (fun _ => none))) n2 u2 c = ah_nx h (1 + n2) (x.toNatClampNeg + u2) c := by
      simp only [ah_nx, Nat.add_assoc]
    rw [e4] at k2
    rw [hsz]
    exact k2
  next => cases e1
theorem ah_cast (C : ah_Cx E X cc nL own F L) {ci idx : Nat} {q : vw_C} {r : Option Nat} {f : Option Nat → ahM ρ} (hq : pg_cls[ci]? = some q) (hl : Cond.classLink own idx q.1 ∈ pg_T) (hd : decode cc pc = .ok (.checkcast idx, 3)) (kk : ah_S E X Qf (pc + 3) lv (va_rf r :: st) (f r)) : ah_S E X Qf pc lv (va_rf r :: st) (ah_rd (ah_cc ci r) f) := by
  intro h r0 n u c hs H locs ls cells slots h1 h2 h3 h4 h5
  obtain ⟨x, e1, e2⟩ := ah_rd_some hs
  obtain ⟨hx, hb, -, hown, hts, hK, -, -⟩ := C
  cases r with
  | none =>
    cases e1
    exact lv_castN hx hb hd (kk h r0 n u c e2 H locs ls cells slots h1 h2 h3 h4 h5)
  | some a =>
    unfold ah_cc at e1
    dsimp only at e1
    split at e1
    next hkd =>
      cases e1
      obtain ⟨cell, q1, q2, q3, q4⟩ := (h1.2.2.2.2 a).1 ci q hkd hq
      have hKn := hK.1 ci q hq
      exact va_castS hx hb hown (hts _ hl) hKn.2 ⟨cell, q1, by rw [q3]; rfl, by rw [q2]; exact hKn.2.1⟩ hd (kk h r0 n u c e2 H locs ls cells slots h1 h2 h3 h4 h5)
    next => cases e1
end AHG
end
section
section AHK
def ah_Pc (E : ahE) (av : List Value) (h : ahH) : Array Value → State → Prop := fun v U => v = av.toArray ∧ ah_Rel E h U.heap ∧ ah_K E U
def ah_Qc (E : ahE) (o : Option Value) (h : ahH) : Array Value → State → Outcome → State → Prop := fun _ _ oc t => oc = .returned o ∧ ah_Rel E h t.heap
def ah_met (E : ahE) (l : Launch) (y : MethodName) (cc : ByteArray) (nL : Nat) (rt : Option FieldType) (F L : Nat) {ρ : Type} (rv : ρ → Option Value) (av : List Value) (f : ahM ρ) : Prop :=
  ∀ (h : ahH) (r : ρ) (n u : Nat) (c : ahC), f h = some (r, n, u, c) → Met l y (Cond.code y cc nL rt :: pg_T) { frames := F, cells := n, slots := u, locals := L } (ah_Pc E av h) (ah_Qc E (rv r) (ah_nx h n u c)) n u (fun q => ae_B E ≤ q)
def rv_I (x : Int32) : Option Value := some (.int x)
def rv_R (x : Option Nat) : Option Value := some (va_rf x)
def rv_V (_ : Unit) : Option Value := none
theorem ah_blind (E : ahE) (av : List Value) (h : ahH) : FrameBlind (ah_Pc E av h) := fun a U g mk q => ⟨q.1, q.2.1, ah_K.same (u := U) (U := U.calling g mk a) rfl q.2.2⟩
def ah_Q (E : ahE) (X : ahX) {ρ : Type} (rv : ρ → Option Value) : ρ → ahH → State → Prop := fun r h => MQ (ax_b X) (ah_Qc E (rv r) h) (ax_a X) (ax_s X) (ax_R X).cells (ax_R X).slots (fun q => ae_B E ≤ q)
theorem ah_slm : ∀ (av : List Value), (∀ v ∈ av, v.category = 1) → lg_sl av = av.map Slot.val
  | [], _ => rfl
  | v :: t, h => by
    have h1 : v.category = 1 := h v List.mem_cons_self
    have h2 := ah_slm t (fun w hw => h w (List.mem_cons_of_mem _ hw))
    simp only [lg_sl, List.flatMap_cons, List.map_cons] at h2 ⊢
    rw [h2, if_neg (by omega)]
    rfl
theorem ah_met_of {E : ahE} {l : Launch} {y : MethodName} {cc : ByteArray} {nL : Nat} {rt : Option FieldType} {F L : Nat} {ρ : Type} {rv : ρ → Option Value} {av : List Value} {f : ahM ρ} (hy : plainName y.cls = true) (hcat : ∀ v ∈ av, v.category = 1) (hlen : av.length ≤ nL) {lv : List (Option Value)} (hlv : av.map some ++ List.replicate (nL - av.length) none = lv)
    (body : ∀ X : ahX, ah_Cx E X cc nL y.cls F L → ax_l X = l → (ax_M X).sig.returnType = rt → (ax_M X).locks = false → (ax_M X).name = y.name → ah_S E X (ah_Q E X rv) 0 lv [] f) : ah_met E l y cc nL rt F L rv av f := by
  intro h r n u c hs
  subst hlv
  refine Met.ofW (cc := cc) (maxL := nL) (ret := rt) hy rfl ?_
  intro p e s m args below meth c0 s₁ B hml hv
  obtain ⟨rfl, hR, hK⟩ := hv
  have hts := atoms_spec (ws := Cond.code y cc nL rt :: pg_T) B.pre
  have hown : s.vm.findClass y.cls = some m.cls := findClass_of_methodNamed B.named
  have k := body (p, l, e, (headSpec (Cond.code y cc nL rt :: pg_T) { frames := F, cells := n, slots := u, locals := L }).room, s, m, av.toArray, below, meth, c0) ⟨B.exec, B.bytes, hml, hown, fun w hw => hts w (List.mem_cons_of_mem _ hw), hK, Nat.le_refl _, Nat.le_refl _⟩ rfl B.returns B.notSynchronized (name_of_methodNamed B.named B.method).1
  rw [lg_entry_eq]
  have hsl : lg_sl av = av.map Slot.val := ah_slm av hcat
  have hl := lv_entry av (n := nL) (by rw [hsl, List.length_map]; exact hlen)
  refine k h r n u c hs s.heap [] _ 0 0 hR (fun q hq => by cases hq) ⟨?_, hl.2.1, fun i v hv => ?_⟩ (by show 0 + n ≤ n; omega) (by show 0 + u ≤ u; omega)
  · rw [hl.1]
    simp
    omega
  · by_cases hi : i < av.length
    · rw [List.getElem?_append_left (by rw [List.length_map]; exact hi), List.getElem?_map] at hv
      have hv2 : av[i]? = some v := by
        cases ha : av[i]? with
        | none => rw [ha] at hv; cases hv
        | some w => rw [ha] at hv; cases hv; rfl
      refine ⟨?_, hcat v (List.mem_of_getElem? hv2)⟩
      rw [hsl]
      have hv3 := (List.getElem?_eq_some_iff.mp hv2).2
      simp [List.getElem?_append_left, hi, hv3]
    · rw [List.getElem?_append_right (by rw [List.length_map]; omega)] at hv
      have := List.eq_of_mem_replicate (List.mem_of_getElem? hv)
      cases this
variable {E : ahE} {X : ahX} {ρ ρ1 : Type} {Qf : ρ → ahH → State → Prop} {cc : ByteArray} {nL : Nat} {own : String} {F L pc : Nat} {lv : List (Option Value)} {st : List Value}
theorem ah_iret (C : ah_Cx E X cc nL own F L) {ty : FieldType} {v : Int32} (hr : (ax_M X).sig.returnType = some ty) (hlk : (ax_M X).locks = false) (hn : narrow ty (.int v) = .int v) (hd : decode cc pc = .ok (.ireturn, 1)) : ah_S E X (ah_Q E X rv_I) pc lv [.int v] (ah_ret v) := by
  intro h r n u c hs H locs ls cells slots h1 h2 h3 h4 h5
  cases hs
  refine W.widen (k := (ax_R X).cells) (n := (ax_R X).slots) (by omega) (by omega) ?_
  exact W.zret C.1 C.2.1 hr hn (fun t ht hW => ⟨rfl, by rw [ht]; exact h1⟩) (fun q hq => h2 q hq) hd hlk
theorem ah_zret (C : ah_Cx E X cc nL own F L) {v : Int32} (hr : (ax_M X).sig.returnType = some .boolean) (hlk : (ax_M X).locks = false) (hd : decode cc pc = .ok (.ireturn, 1)) : ah_S E X (ah_Q E X rv_I) pc lv [.int v] (ah_retZ v) := by
  intro h r n u c hs H locs ls cells slots h1 h2 h3 h4 h5
  unfold ah_retZ at hs
  split at hs
  next hv =>
    cases hs
    refine W.widen (k := (ax_R X).cells) (n := (ax_R X).slots) (by omega) (by omega) ?_
    refine W.zret C.1 C.2.1 hr ?_ (fun t ht hW => ⟨rfl, by rw [ht]; exact h1⟩) (fun q hq => h2 q hq) hd hlk
    rcases hv with rfl | rfl <;> rfl
  next => cases hs
theorem ah_vret (C : ah_Cx E X cc nL own F L) (hr : (ax_M X).sig.returnType = none) (hlk : (ax_M X).locks = false) (hd : decode cc pc = .ok (.return_, 1)) : ah_S E X (ah_Q E X rv_V) pc lv [] (ah_ret ()) := by
  intro h r n u c hs H locs ls cells slots h1 h2 h3 h4 h5
  cases hs
  refine W.widen (k := (ax_R X).cells) (n := (ax_R X).slots) (by omega) (by omega) ?_
  exact W.vret C.1 C.2.1 hr (fun t ht hW => ⟨rfl, by rw [ht]; exact h1⟩) (fun q hq => h2 q hq) hd hlk
theorem ah_aret (C : ah_Cx E X cc nL own F L) {ty : FieldType} {v : Option Nat} (hr : (ax_M X).sig.returnType = some ty) (hlk : (ax_M X).locks = false) (hty : (∃ n, ty = .object n) ∨ ∃ t, ty = .array t) (hd : decode cc pc = .ok (.areturn, 1)) : ah_S E X (ah_Q E X rv_R) pc lv [va_rf v] (ah_ret v) := by
  intro h r n u c hs H locs ls cells slots h1 h2 h3 h4 h5
  cases hs
  refine W.widen (k := (ax_R X).cells) (n := (ax_R X).slots) (by omega) (by omega) ?_
  refine W.aret C.1 C.2.1 hr hty ?_ (fun t ht hW => ⟨rfl, by rw [ht]; exact h1⟩) (fun q hq => h2 q hq) hd hlk
  cases v with
  | none => exact Or.inl rfl
  | some a => exact Or.inr ⟨a, rfl⟩
theorem ah_back {rv : ρ1 → Option Value} {g : ahM ρ1} {f : ρ1 → ahM ρ} {st0 rest : List Value}
    (hrun : ∀ (h : ahH) (x : ρ1) (n1 u1 : Nat) (c1 : ahC), g h = some (x, n1, u1, c1) → ∀ (H : Heap) (locs : List Loc) (ls : Array Slot) (cells slots : Nat), ah_Rel E h H → ls.size = lv.length → cells + n1 ≤ (ax_R X).cells → slots + u1 ≤ (ax_R X).slots →
      ∃ a : Array Value, va_Run (ax_p X) (ax_l X) (ax_e X) (ax_R X) (ax_s X) (ax_m X) (ax_a X) (ax_b X) (ax_M X) (ax_c X) H locs cells slots n1 u1 (F0 (ax_m X) pc ls st0) rest (ah_Qc E (rv x) (ah_nx h n1 u1 c1) a) (fun q => ae_B E ≤ q))
    (kk : ∀ x, ah_S E X Qf (pc + 3) lv ((rv x).toList ++ rest) (f x)) : ah_S E X Qf pc lv st0 (ah_bnd g f) := by
  intro h r0 n u c hs H locs ls cells slots h1 h2 h3 h4 h5 T hT Xs
  obtain ⟨x, n1, u1, c1, n2, u2, e1, e2, rfl, rfl⟩ := ah_bnd_some hs
  obtain ⟨a, hr⟩ := hrun h x n1 u1 c1 e1 H locs ls cells slots h1 h3.1 (by omega) (by omega)
  obtain ⟨v, st₀, t, T', Lc, h0, X', hL, y1, y2, ⟨hv, hRel⟩, stp⟩ := hr T hT Xs
  cases hv
  have k2 := kk x _ r0 n2 u2 c e2 T'.heap (locs ++ Lc) ls (cells + n1) (slots + u1) (by rw [y1]; exact hRel) (fun q hq => by
    rcases List.mem_append.mp hq with h | h
    · exact h2 q h
    · exact hL q h) h3 (by omega) (by omega)
  have e4 : ah_nx (ah_nx h n1 u1 c1) n2 u2 c = ah_nx h (n1 + n2) (u1 + u2) c := by
    simp only [ah_nx, Nat.add_assoc]
  rw [e4] at k2
  obtain ⟨t2, a1, b1⟩ := k2 T' rfl X'
  exact ⟨t2, stp t2 a1, b1⟩
def ah_Y (y : MethodName) (n : Nat) : Prop := (y.cls ≠ "java/lang/invoke/MethodHandle" ∧ y.cls ≠ "java/lang/invoke/VarHandle") ∧ (parseMethodDescriptor y.desc).map (fun d => d.parameters.length) = some n
def ah_LM (own : String) (idx : Nat) (y : MethodName) : Prop := Cond.methodLink own idx y ∈ pg_T ∨ ∃ host, Cond.methodLinkNest own idx y host ∈ pg_N
theorem ah_Y.len {y : MethodName} {n : Nat} (h : ah_Y y n) : ∀ sig, parseMethodDescriptor y.desc = some sig → n = sig.parameters.length := by
  intro sig hs
  have h2 := h.2
  rw [hs] at h2
  exact (Option.some.inj h2).symm
theorem ah_pay {s : State} {args : Array Value} (hts : ∀ w ∈ pg_T, w.before args s = true) {y : MethodName} {bytes : ByteArray} {maxL : Nat} {rt : Option FieldType} (hc : Cond.code y bytes maxL rt ∈ pg_T) : ∀ w ∈ (Cond.code y bytes maxL rt :: pg_T), ∀ (a' : Array Value) (U : State), s.WarmedH U.vm → w.before a' U = true :=
  pay_in (big := pg_T) hts (fun w hw => by
    rcases List.mem_cons.mp hw with rfl | hw
    · exact ⟨hc, pg_T_ok _ hc⟩
    · exact ⟨hw, pg_T_ok w hw⟩)
theorem ah_pre {s : State} {av : List Value} {h : ahH} {H : Heap} (hK : ah_K E s) (hR : ah_Rel E h H) : PreS s H (ah_Pc E av h) av :=
  ⟨ah_blind E av h, fun U hU hW => ⟨rfl, by rw [hU]; exact hR, hK.warm hW⟩⟩
theorem ah_callS (C : ah_Cx E X cc nL own F L) {y : MethodName} {bytes : ByteArray} {maxL F1 L1 idx : Nat} {rt : Option FieldType} {rv : ρ1 → Option Value} {As rest st0 : List Value} {g : ahM ρ1} {f : ρ1 → ahM ρ} (hM : ah_met E (ax_l X) y bytes maxL rt F1 L1 rv As g) (hl : ah_LM own idx y) (hstt : Cond.static y ∈ pg_T) (hini : Cond.initialized y.cls ∈ pg_T) (hc : Cond.code y bytes maxL rt ∈ pg_T) (hy : ah_Y y As.length) (hF : F1 + 1 ≤ F) (hL : 8 + (maxL + 11) + L1 ≤ L) (hlv : lv.length = nL) (hst : As.reverse ++ rest = st0) (hre : (rest.map fun v => v.category).sum ≤ 8) (hd : decode cc pc = .ok (.invokestatic idx, 3)) (kk : ∀ x, ah_S E X Qf (pc + 3) lv ((rv x).toList ++ rest) (f x)) : ah_S E X Qf pc lv st0 (ah_bnd g f) := by
  obtain ⟨hx, hb, hml, hown, hts, hK, hRF, hRL⟩ := C
  refine ah_back (rv := rv) (fun h x n1 u1 c1 hs H locs ls cells slots h1 h3 h4 h5 => ⟨As.toArray, ?_⟩) kk
  subst hst
  have hM1 := hM h x n1 u1 c1 hs
  rcases hl with hl | ⟨host, hl⟩
  · exact va_runS (n := As.length) ⟨hx, hb, hml, hown, hts⟩ hM1 ⟨⟨rfl, rfl, (by show F1 + 1 ≤ _; omega), (by show 8 + (maxL + 11) + L1 ≤ _; omega), ah_pay hts hc, List.mem_cons_self, hts _ hc, hts _ hini, hy.1, hy.len, hts _ hl⟩, hts _ hstt⟩ (ah_pre hK h1) rfl rfl (h3.trans hlv) rfl (lv_room hre) hd ⟨h4, h5⟩
  · exact va_runSN (n := As.length) ⟨hx, hb, hml, hown, hts⟩ hM1 ⟨⟨⟨rfl, rfl, (by show F1 + 1 ≤ _; omega), (by show 8 + (maxL + 11) + L1 ≤ _; omega), ah_pay hts hc, List.mem_cons_self⟩, hts _ hc, hts _ hini, hy.1, hy.len, va_Nw.use rfl (hK.2.2.1 _ hl)⟩, hts _ hstt, trivial⟩ (ah_pre hK h1) rfl rfl (h3.trans hlv) rfl (lv_room hre) hd ⟨h4, h5⟩
theorem ah_callI (C : ah_Cx E X cc nL own F L) {y : MethodName} {bytes : ByteArray} {maxL F1 L1 idx : Nat} {As rest st0 : List Value} {r : Option Nat} {g : Nat → ahM Unit} {f : Unit → ahM ρ} (hM : ∀ b, ah_met E (ax_l X) y bytes maxL none F1 L1 rv_V (.ref b :: As) (g b)) (hl : ah_LM own idx y) (hnm : y.name = "<init>") (hins : Cond.instanceMethod y ∈ pg_T) (hini : Cond.initialized y.cls ∈ pg_T) (hc : Cond.code y bytes maxL none ∈ pg_T) (hy : ah_Y y As.length) (hF : F1 + 1 ≤ F) (hL : 8 + (maxL + 11) + L1 ≤ L) (hlv : lv.length = nL) (hst : As.reverse ++ va_rf r :: rest = st0) (hre : (rest.map fun v => v.category).sum ≤ 8) (hd : decode cc pc = .ok (.invokespecial idx, 3)) (kk : ah_S E X Qf (pc + 3) lv rest (f ())) : ah_S E X Qf pc lv st0 (ah_bnd (ah_cI r g) f) := by
  obtain ⟨hx, hb, hml, hown, hts, hK, hRF, hRL⟩ := C
  refine ah_back (rv := rv_V) (fun h x n1 u1 c1 hs H locs ls cells slots h1 h3 h4 h5 => ?_) (fun _ => kk)
  subst hst
  cases r with
  | none => cases hs
  | some b =>
    refine ⟨(Value.ref b :: As).toArray, ?_⟩
    have hM1 := hM b h x n1 u1 c1 hs
    rcases hl with hl | ⟨host, hl⟩
    · exact va_runI (n := As.length) ⟨hx, hb, hml, hown, hts⟩ hM1 ⟨⟨rfl, rfl, (by show F1 + 1 ≤ _; omega), (by show 8 + (maxL + 11) + L1 ≤ _; omega), ah_pay hts hc, List.mem_cons_self, hts _ hc, hts _ hini, hy.1, hy.len, hts _ hl⟩, hnm, hts _ hins⟩ (ah_pre hK h1) rfl rfl (h3.trans hlv) rfl (lv_room hre) hd ⟨h4, h5⟩
    · exact va_runIN (n := As.length) ⟨hx, hb, hml, hown, hts⟩ hM1 ⟨⟨⟨rfl, rfl, (by show F1 + 1 ≤ _; omega), (by show 8 + (maxL + 11) + L1 ≤ _; omega), ah_pay hts hc, List.mem_cons_self⟩, hts _ hc, hts _ hini, hy.1, hy.len, va_Nw.use rfl (hK.2.2.1 _ hl)⟩, hnm, hts _ hins⟩ (ah_pre hK h1) rfl rfl (h3.trans hlv) rfl (lv_room hre) hd ⟨h4, h5⟩
theorem ah_callV (C : ah_Cx E X cc nL own F L) {y : MethodName} {bytes : ByteArray} {maxL F1 L1 idx ci : Nat} {q : vw_C} {rt : Option FieldType} {rv : ρ1 → Option Value} {As rest st0 : List Value} {r : Option Nat} {g : Nat → ahM ρ1} {f : ρ1 → ahM ρ} (hM : ∀ b, ah_met E (ax_l X) y bytes maxL rt F1 L1 rv (.ref b :: As) (g b)) (hq : pg_cls[ci]? = some q) (hl : ah_LM own idx y) (hins : Cond.instanceMethod y ∈ pg_T) (hsel : Cond.selects q.1 y y ∈ pg_T) (hini : Cond.initialized y.cls ∈ pg_T) (hc : Cond.code y bytes maxL rt ∈ pg_T) (hy : ah_Y y As.length) (hF : F1 + 1 ≤ F) (hL : 8 + (maxL + 11) + L1 ≤ L) (hlv : lv.length = nL) (hst : As.reverse ++ va_rf r :: rest = st0) (hre : (rest.map fun v => v.category).sum ≤ 8) (hd : decode cc pc = .ok (.invokevirtual idx, 3)) (kk : ∀ x, ah_S E X Qf (pc + 3) lv ((rv x).toList ++ rest) (f x)) : ah_S E X Qf pc lv st0 (ah_bnd (ah_cV ci r g) f) := by
  obtain ⟨hx, hb, hml, hown, hts, hK, hRF, hRL⟩ := C
  refine ah_back (rv := rv) (fun h x n1 u1 c1 hs H locs ls cells slots h1 h3 h4 h5 => ?_) kk
  subst hst
  cases r with
  | none => cases hs
  | some b =>
    unfold ah_cV at hs
    dsimp only at hs
    split at hs
    next hkd =>
      refine ⟨(Value.ref b :: As).toArray, ?_⟩
      have hM1 := hM b h x n1 u1 c1 hs
      obtain ⟨cell, q1, q2, q3, q4⟩ := (h1.2.2.2.2 b).1 ci q hkd hq
      have hrec : ∃ cellB : Cell, H[b]? = some cellB ∧ cellB.vm.isStatics = false ∧ (ax_s X).vm.findClass q.1 = some cellB.cls := ⟨cell, q1, by rw [q3]; rfl, by rw [q2]; exact (hK.1 ci q hq).2.1⟩
      have hp := ah_pre (av := .ref b :: As) hK h1
      rcases hl with hl | ⟨host, hl⟩
      · exact va_runV (n := As.length) (C := q.1) ⟨hx, hb, hml, hown, hts⟩ hM1 ⟨⟨rfl, rfl, (by show F1 + 1 ≤ _; omega), (by show 8 + (maxL + 11) + L1 ≤ _; omega), ah_pay hts hc, List.mem_cons_self, hts _ hc, hts _ hini, hy.1, hy.len, hts _ hl⟩, hts _ hins, hts _ hsel⟩ ⟨hp.1, hrec, hp.2⟩ rfl rfl (h3.trans hlv) rfl (lv_room hre) hd ⟨h4, h5⟩
      · exact va_runVN (n := As.length) (C := q.1) ⟨hx, hb, hml, hown, hts⟩ hM1 ⟨⟨⟨rfl, rfl, (by show F1 + 1 ≤ _; omega), (by show 8 + (maxL + 11) + L1 ≤ _; omega), ah_pay hts hc, List.mem_cons_self⟩, hts _ hc, hts _ hini, hy.1, hy.len, va_Nw.use rfl (hK.2.2.1 _ hl)⟩, hts _ hins, hts _ hsel⟩ ⟨hp.1, hrec, hp.2⟩ rfl rfl (h3.trans hlv) rfl (lv_room hre) hd ⟨h4, h5⟩
    next => cases hs
theorem ah_objInit (C : ah_Cx E X cc nL own F L) {idx : Nat} {a : Nat} {f : ahM ρ} (hl : Cond.methodLink own idx Lib.objectInit ∈ pg_T) (hins : Cond.instanceMethod Lib.objectInit ∈ pg_T) (hc : Cond.code Lib.objectInit ⟨#[0xb1]⟩ 1 none ∈ pg_T) (hF : 1 ≤ F) (hL : 20 ≤ L) (hlv : lv.length = nL) (hre : (st.map fun v => v.category).sum ≤ 8) (hd : decode cc pc = .ok (.invokespecial idx, 3)) (kk : ah_S E X Qf (pc + 3) lv st f) : ah_S E X Qf pc lv (va_rf (some a) :: st) f := by
  obtain ⟨hx, hb, hml, hown, hts, hK, hRF, hRL⟩ := C
  intro h r n u c hs H locs ls cells slots h1 h2 h3 h4 h5
  refine W.objInit hx hb hown (hts _ hl) (hts _ hins) (hts _ hc) rfl (by rw [hml]; exact h3.1.trans hlv) rfl hd (by omega) ?_ (kk h r n u c hs H locs ls cells slots h1 h2 h3 h4 h5)
  have := lv_room (m := ax_m X) (pc := pc) (ls := ls) (rest := va_rf (some a) :: st) hre
  omega
end AHK
section AHZ
def ah_c1 : List Value → Prop
  | [] => True
  | v :: vs => v.category = 1 ∧ ah_c1 vs
theorem ah_c1_all : ∀ {vs : List Value}, ah_c1 vs → ∀ v ∈ vs, v.category = 1
  | [], _, v, h => by cases h
  | w :: vs, hc, v, h => by
    rcases List.mem_cons.mp h with rfl | h
    · exact hc.1
    · exact ah_c1_all hc.2 v h
def FU : Nat := 2000000
variable {E : ahE} {X : ahX} {ρ ρ1 : Type} {Qf : ρ → ahH → State → Prop} {cc : ByteArray} {nL : Nat} {own : String} {F L pc : Nat} {lv : List (Option Value)} {st : List Value}
theorem ah_byc {P : Prop} [hP : Decidable P] {A B : ahM ρ} (kt : P → ah_S E X Qf pc lv st A) (kf : ¬ P → ah_S E X Qf pc lv st B) : ah_S E X Qf pc lv st (if P then A else B) := by
  by_cases hp : P
  · rw [if_pos hp]; exact kt hp
  · rw [if_neg hp]; exact kf hp
theorem ah_tin (C : ah_Cx E X cc nL own F L) {dflt lo hi off : Int} {offs : Array Int} {len tgt : Nat} {x k : Int32} {f : ahM ρ} (hd : decode cc pc = .ok (.tableswitch dflt lo hi offs, len)) (hx : x = k) (h1 : ¬ k.toInt < lo) (h2 : ¬ hi < k.toInt) (ho : offs[(k.toInt - lo).toNat]? = some off) (ht : (pc : Int) + off = (tgt : Int)) (kk : ah_S E X Qf tgt lv st f) : ah_S E X Qf pc lv (.int x :: st) f := by
  subst hx
  exact ah_go (fun _ _ _ _ _ _ _ k => lv_tableIn C.1 C.2.1 hd h1 h2 ho ht k) kk
theorem ah_tout (C : ah_Cx E X cc nL own F L) {dflt lo hi : Int} {offs : Array Int} {len tgt : Nat} {x : Int32} {f : ahM ρ} (hd : decode cc pc = .ok (.tableswitch dflt lo hi offs, len)) (h : x.toInt < lo ∨ hi < x.toInt) (ht : (pc : Int) + dflt = (tgt : Int)) (kk : ah_S E X Qf tgt lv st f) : ah_S E X Qf pc lv (.int x :: st) f :=
  ah_go (fun _ _ _ _ _ _ _ k => lv_tableOut C.1 C.2.1 hd h ht k) kk
theorem ah_callSI (C : ah_Cx E X cc nL own F L) {y : MethodName} {bytes : ByteArray} {maxL F1 L1 idx : Nat} {rt : Option FieldType} {As rest st0 : List Value} {g : ahM Int32} {f : Int32 → ahM ρ} (hM : ah_met E (ax_l X) y bytes maxL rt F1 L1 rv_I As g) (hl : ah_LM own idx y) (hstt : Cond.static y ∈ pg_T) (hini : Cond.initialized y.cls ∈ pg_T) (hc : Cond.code y bytes maxL rt ∈ pg_T) (hy : ah_Y y As.length) (hF : F1 + 1 ≤ F) (hL : 8 + (maxL + 11) + L1 ≤ L) (hlv : lv.length = nL) (hst : As.reverse ++ rest = st0) (hre : (rest.map fun v => v.category).sum ≤ 8) (hd : decode cc pc = .ok (.invokestatic idx, 3)) (kk : ∀ x, ah_S E X Qf (pc + 3) lv (.int x :: rest) (f x)) : ah_S E X Qf pc lv st0 (ah_bnd g f) :=
  ah_callS C hM hl hstt hini hc hy hF hL hlv hst hre hd kk
theorem ah_callSR (C : ah_Cx E X cc nL own F L) {y : MethodName} {bytes : ByteArray} {maxL F1 L1 idx : Nat} {rt : Option FieldType} {As rest st0 : List Value} {g : ahM (Option Nat)} {f : Option Nat → ahM ρ} (hM : ah_met E (ax_l X) y bytes maxL rt F1 L1 rv_R As g) (hl : ah_LM own idx y) (hstt : Cond.static y ∈ pg_T) (hini : Cond.initialized y.cls ∈ pg_T) (hc : Cond.code y bytes maxL rt ∈ pg_T) (hy : ah_Y y As.length) (hF : F1 + 1 ≤ F) (hL : 8 + (maxL + 11) + L1 ≤ L) (hlv : lv.length = nL) (hst : As.reverse ++ rest = st0) (hre : (rest.map fun v => v.category).sum ≤ 8) (hd : decode cc pc = .ok (.invokestatic idx, 3)) (kk : ∀ x, ah_S E X Qf (pc + 3) lv (va_rf x :: rest) (f x)) : ah_S E X Qf pc lv st0 (ah_bnd g f) :=
  ah_callS C hM hl hstt hini hc hy hF hL hlv hst hre hd kk
theorem ah_callSV (C : ah_Cx E X cc nL own F L) {y : MethodName} {bytes : ByteArray} {maxL F1 L1 idx : Nat} {rt : Option FieldType} {As rest st0 : List Value} {g : ahM Unit} {f : Unit → ahM ρ} (hM : ah_met E (ax_l X) y bytes maxL rt F1 L1 rv_V As g) (hl : ah_LM own idx y) (hstt : Cond.static y ∈ pg_T) (hini : Cond.initialized y.cls ∈ pg_T) (hc : Cond.code y bytes maxL rt ∈ pg_T) (hy : ah_Y y As.length) (hF : F1 + 1 ≤ F) (hL : 8 + (maxL + 11) + L1 ≤ L) (hlv : lv.length = nL) (hst : As.reverse ++ rest = st0) (hre : (rest.map fun v => v.category).sum ≤ 8) (hd : decode cc pc = .ok (.invokestatic idx, 3)) (kk : ah_S E X Qf (pc + 3) lv rest (f ())) : ah_S E X Qf pc lv st0 (ah_bnd g f) :=
  ah_callS C hM hl hstt hini hc hy hF hL hlv hst hre hd (fun _ => kk)
theorem ah_callVI (C : ah_Cx E X cc nL own F L) {y : MethodName} {bytes : ByteArray} {maxL F1 L1 idx ci : Nat} {q : vw_C} {rt : Option FieldType} {As rest st0 : List Value} {r : Option Nat} {g : Nat → ahM Int32} {f : Int32 → ahM ρ} (hM : ∀ b, ah_met E (ax_l X) y bytes maxL rt F1 L1 rv_I (.ref b :: As) (g b)) (hq : pg_cls[ci]? = some q) (hl : ah_LM own idx y) (hins : Cond.instanceMethod y ∈ pg_T) (hsel : Cond.selects q.1 y y ∈ pg_T) (hini : Cond.initialized y.cls ∈ pg_T) (hc : Cond.code y bytes maxL rt ∈ pg_T) (hy : ah_Y y As.length) (hF : F1 + 1 ≤ F) (hL : 8 + (maxL + 11) + L1 ≤ L) (hlv : lv.length = nL) (hst : As.reverse ++ va_rf r :: rest = st0) (hre : (rest.map fun v => v.category).sum ≤ 8) (hd : decode cc pc = .ok (.invokevirtual idx, 3)) (kk : ∀ x, ah_S E X Qf (pc + 3) lv (.int x :: rest) (f x)) : ah_S E X Qf pc lv st0 (ah_bnd (ah_cV ci r g) f) :=
  ah_callV C hM hq hl hins hsel hini hc hy hF hL hlv hst hre hd kk
theorem ah_callVR (C : ah_Cx E X cc nL own F L) {y : MethodName} {bytes : ByteArray} {maxL F1 L1 idx ci : Nat} {q : vw_C} {rt : Option FieldType} {As rest st0 : List Value} {r : Option Nat} {g : Nat → ahM (Option Nat)} {f : Option Nat → ahM ρ} (hM : ∀ b, ah_met E (ax_l X) y bytes maxL rt F1 L1 rv_R (.ref b :: As) (g b)) (hq : pg_cls[ci]? = some q) (hl : ah_LM own idx y) (hins : Cond.instanceMethod y ∈ pg_T) (hsel : Cond.selects q.1 y y ∈ pg_T) (hini : Cond.initialized y.cls ∈ pg_T) (hc : Cond.code y bytes maxL rt ∈ pg_T) (hy : ah_Y y As.length) (hF : F1 + 1 ≤ F) (hL : 8 + (maxL + 11) + L1 ≤ L) (hlv : lv.length = nL) (hst : As.reverse ++ va_rf r :: rest = st0) (hre : (rest.map fun v => v.category).sum ≤ 8) (hd : decode cc pc = .ok (.invokevirtual idx, 3)) (kk : ∀ x, ah_S E X Qf (pc + 3) lv (va_rf x :: rest) (f x)) : ah_S E X Qf pc lv st0 (ah_bnd (ah_cV ci r g) f) :=
  ah_callV C hM hq hl hins hsel hini hc hy hF hL hlv hst hre hd kk
theorem ah_callVV (C : ah_Cx E X cc nL own F L) {y : MethodName} {bytes : ByteArray} {maxL F1 L1 idx ci : Nat} {q : vw_C} {rt : Option FieldType} {As rest st0 : List Value} {r : Option Nat} {g : Nat → ahM Unit} {f : Unit → ahM ρ} (hM : ∀ b, ah_met E (ax_l X) y bytes maxL rt F1 L1 rv_V (.ref b :: As) (g b)) (hq : pg_cls[ci]? = some q) (hl : ah_LM own idx y) (hins : Cond.instanceMethod y ∈ pg_T) (hsel : Cond.selects q.1 y y ∈ pg_T) (hini : Cond.initialized y.cls ∈ pg_T) (hc : Cond.code y bytes maxL rt ∈ pg_T) (hy : ah_Y y As.length) (hF : F1 + 1 ≤ F) (hL : 8 + (maxL + 11) + L1 ≤ L) (hlv : lv.length = nL) (hst : As.reverse ++ va_rf r :: rest = st0) (hre : (rest.map fun v => v.category).sum ≤ 8) (hd : decode cc pc = .ok (.invokevirtual idx, 3)) (kk : ah_S E X Qf (pc + 3) lv rest (f ())) : ah_S E X Qf pc lv st0 (ah_bnd (ah_cV ci r g) f) :=
  ah_callV C hM hq hl hins hsel hini hc hy hF hL hlv hst hre hd (fun _ => kk)
end AHZ
end
section
section AHP
variable {E : ahE} {X : ahX} {ρ : Type} {Qf : ρ → ahH → State → Prop} {cc : ByteArray} {nL : Nat} {own : String} {F L pc : Nat} {lv : List (Option Value)} {st : List Value}
def jd_max (x y : Int32) : Int32 := if x < y then y else x
def jd_min (x y : Int32) : Int32 := if y < x then y else x
theorem ah_mmax (C : ah_Cx E X cc nL own F L) {idx : Nat} {x y : Int32} {f : ahM ρ} (hl : Cond.methodLink own idx Lib.Math.max.name ∈ pg_T) (hs : Cond.static Lib.Math.max.name ∈ pg_T) (hi : Cond.initialized "java/lang/Math" ∈ pg_T) (hc : Cond.code Lib.Math.max.name Lib.Math.max.code 2 (some .int) ∈ pg_T) (hF : 1 ≤ F) (hL : 21 ≤ L) (hlv : lv.length = nL) (hre : (st.map fun v => v.category).sum ≤ 8) (hd : decode cc pc = .ok (.invokestatic idx, 3)) (kk : ah_S E X Qf (pc + 3) lv (.int (jd_max x y) :: st) f) : ah_S E X Qf pc lv (.int y :: .int x :: st) f := by
  obtain ⟨hx, hb, hml, hown, hts, hK, hRF, hRL⟩ := C
  intro h r n u c hs0 H locs ls cells slots h1 h2 h3 h4 h5
  exact va_mmax hx hb (by rw [hml, h3.1]; exact hlv.symm) hown (hts _ hl) (hts _ hs) (hts _ hi) (hts _ hc) (by omega) (by omega) (by omega) (by omega) hd (kk h r n u c hs0 H locs ls cells slots h1 h2 h3 h4 h5)
theorem ah_mmin (C : ah_Cx E X cc nL own F L) {idx : Nat} {x y : Int32} {f : ahM ρ} (hl : Cond.methodLink own idx Lib.Math.min.name ∈ pg_T) (hs : Cond.static Lib.Math.min.name ∈ pg_T) (hi : Cond.initialized "java/lang/Math" ∈ pg_T) (hc : Cond.code Lib.Math.min.name Lib.Math.min.code 2 (some .int) ∈ pg_T) (hF : 1 ≤ F) (hL : 21 ≤ L) (hlv : lv.length = nL) (hre : (st.map fun v => v.category).sum ≤ 8) (hd : decode cc pc = .ok (.invokestatic idx, 3)) (kk : ah_S E X Qf (pc + 3) lv (.int (jd_min x y) :: st) f) : ah_S E X Qf pc lv (.int y :: .int x :: st) f := by
  obtain ⟨hx, hb, hml, hown, hts, hK, hRF, hRL⟩ := C
  intro h r n u c hs0 H locs ls cells slots h1 h2 h3 h4 h5
  exact va_mmin hx hb (by rw [hml, h3.1]; exact hlv.symm) hown (hts _ hl) (hts _ hs) (hts _ hi) (hts _ hc) (by omega) (by omega) (by omega) (by omega) hd (kk h r n u c hs0 H locs ls cells slots h1 h2 h3 h4 h5)
def ah_cpI (r0 : Option Nat) (sp : Int32) (r1 : Option Nat) (dp n : Int32) (h : ahH) : Option ahC := match r0, r1 with
  | some a0, some a1 => if ah_kd h a0 = 100 ∧ ah_kd h a1 = 100 ∧ ¬ sp < 0 ∧ ¬ dp < 0 ∧ ¬ n < 0 ∧ sp.toNatClampNeg + n.toNatClampNeg ≤ ah_ln h a0 ∧ dp.toNatClampNeg + n.toNatClampNeg ≤ ah_ln h a1 then
      some (h.2.2.1, va_up (ah_I h) a1 (va_cpy (ah_I h a0) (ah_I h a1) sp.toNatClampNeg dp.toNatClampNeg n.toNatClampNeg), ah_P h) else none
  | _, _ => none
theorem ah_copyI (C : ah_Cx E X cc nL own F L) {idx : Nat} {r0 r1 : Option Nat} {sp dp n : Int32} {f : ahM ρ} (hj : pg_aty[0]? = some .int) (hR : ah_aRf 0 = false) (hl : Cond.methodLink own idx arraycopyName ∈ pg_T) (hnat : Cond.native arraycopyName ∈ pg_T) (hstt : Cond.static arraycopyName ∈ pg_T) (hi : Cond.initialized "java/lang/System" ∈ pg_T) (hF : 1 ≤ F) (hL : 8 + (nativeFrameWords "java/lang/System" "arraycopy" 5 + 11) ≤ L) (hlv : lv.length = nL) (hre : (st.map fun v => v.category).sum ≤ 8) (hd : decode cc pc = .ok (.invokestatic idx, 3)) (kk : ah_S E X Qf (pc + 3) lv st f) : ah_S E X Qf pc lv (.int n :: .int dp :: va_rf r1 :: .int sp :: va_rf r0 :: st) (ah_wr (ah_cpI r0 sp r1 dp n) f) := by
  obtain ⟨hx, hb, hml, hown, hts, hK, hRF, hRL⟩ := C
  intro h r n' u c hs0 H locs ls cells slots h1 h2 h3 h4 h5 T hT Xs
  obtain ⟨c1, e1, e2⟩ := ah_wr_some hs0
  have nn : ∀ z : Int32, ¬ z < 0 → z.toInt = (z.toNatClampNeg : Int) := by
    intro z hz
    have hz0 : (0 : Int) ≤ z.toInt := by
      have := Int32.not_lt.mp hz
      simpa using Int32.le_iff_toInt_le.mp this
    show z.toInt = ((z.toInt.toNat : Nat) : Int)
    omega
  cases r0 with
  | none => cases e1
  | some a0 =>
  cases r1 with
  | none => cases e1
  | some a1 =>
    unfold ah_cpI at e1
    dsimp only at e1
    split at e1
    next hg =>
      obtain ⟨k0, k1, g1, g2, g3, g4, g5⟩ := hg
      cases e1
      have hc0 := (h1.2.2.2.2 a0).2.1 0 k0 (by decide)
      have hc1 := (h1.2.2.2.2 a1).2.1 0 k1 (by decide)
      rw [hR] at hc0 hc1
      have hc0 : H[a0]? = some (arrV (ae_A E 0) (ah_ln h a0) (fun k => .int (ah_I h a0 k))) := hc0
      have hc1 : H[a1]? = some (arrV (ae_A E 0) (ah_ln h a1) (fun k => .int (ah_I h a1 k))) := hc1
      obtain ⟨-, kA, hkA, cm0, hkk0⟩ := (hK.2.1 0 _ hj).1 (ah_ln h a0) (fun j => .int (ah_I h a0 j))
      obtain ⟨vm', X', step⟩ := Xs.arraycopy hx hown (hts _ hl) (hts _ hnat) (hts _ hstt) (hts _ hi) (src := a0) (dst := a1) (cs := arrV (ae_A E 0) (ah_ln h a0) (fun k => .int (ah_I h a0 k))) (cd := arrV (ae_A E 0) (ah_ln h a1) (fun k => .int (ah_I h a1 k))) (srcPos := sp) (destPos := dp) (n := n) (by rw [hT]; exact hc0) (by rw [hT]; exact hc1)
        (fun _ h => by cases h) (fun _ h => by cases h) (fun h => by cases h) (fun h => by cases h) hkA hkA hkk0 hkk0 (by simp [refKind]) g1 g2 g3
        (by rw [nn sp g1, nn n g3, arrV_size]; omega)
        (by rw [nn dp g2, nn n g3, arrV_size]; omega)
        (fun vm₁ _ i hi => by
          have e : (arrV (ae_A E 0) (ah_ln h a0) (fun k => .int (ah_I h a0 k))).slots.getD (sp.toNatClampNeg + i) .null = .int (ah_I h a0 (sp.toNatClampNeg + i)) := by
            rw [Array.getD_eq_getD_getElem?, arrV_read _ _ (by omega)]
            rfl
          refine ⟨?_, ?_⟩
          · rw [e]
            rfl
          · rw [e]
            exact trivial)
        (g := F0 (ax_m X) pc ls (.int n :: .int dp :: .ref a1 :: .int sp :: .ref a0 :: st)) rfl (by rw [hml, h3.1]; exact hlv) (rest := st) rfl (by rw [hb]; exact hd) (by omega) (by show 2 * 0 + _ + _ ≤ _; omega)
      have e5 : copied (arrV (ae_A E 0) (ah_ln h a0) (fun k => .int (ah_I h a0 k))) (arrV (ae_A E 0) (ah_ln h a1) (fun k => .int (ah_I h a1 k))) sp dp n = arrV (ae_A E 0) (ah_ln h a1) (fun k => .int (va_cpy (ah_I h a0) (ah_I h a1) sp.toNatClampNeg dp.toNatClampNeg n.toNatClampNeg k)) := va_copied (fun z => .int z) _ _ _ _ g4
      rw [e5] at X' step
      have hlt : a1 < H.size := (Array.getElem?_eq_some_iff.mp hc1).1
      have hheap : ((T.setVm vm').setCell a1 (arrV (ae_A E 0) (ah_ln h a1) (fun k => .int (va_cpy (ah_I h a0) (ah_I h a1) sp.toNatClampNeg dp.toNatClampNeg n.toNatClampNeg k)))).heap = H.setIfInBounds a1 (arrV (ae_A E 0) (ah_ln h a1) (fun k => .int (va_cpy (ah_I h a0) (ah_I h a1) sp.toNatClampNeg dp.toNatClampNeg n.toNatClampNeg k))) := by rw [← hT]; rfl
      have hBa := h1.2.2.2.1 a1 (by omega) (by omega)
      have w1 : ah_Rel E (h.1, h.2.1, h.2.2.1, va_up (ah_I h) a1 (va_cpy (ah_I h a0) (ah_I h a1) sp.toNatClampNeg dp.toNatClampNeg n.toNatClampNeg), ah_P h) (H.setIfInBounds a1 (arrV (ae_A E 0) (ah_ln h a1) (fun k => .int (va_cpy (ah_I h a0) (ah_I h a1) sp.toNatClampNeg dp.toNatClampNeg n.toNatClampNeg k)))) := by
        refine h1.arr (j := 0) k1 (by decide) (by simp) (fun q hq => by simp [Array.getElem?_setIfInBounds, Ne.symm hq]) (fun b hb => va_up_ne _ _ hb) (fun _ _ => rfl) ?_ ah_cls98
        rw [hR, va_up_self]
        simp [Array.getElem?_setIfInBounds, hlt, ah_fv]
      obtain ⟨t, b1, b2⟩ := kk _ r n' u c e2 _ _ ls cells slots w1 (fun q hq => by
        rcases List.mem_append.mp hq with h | h
        · exact h2 q h
        · obtain ⟨z, -, hz⟩ := List.mem_map.mp h
          rw [← hz]
          exact hBa.1) h3 h4 h5 _ hheap X'
      exact ⟨t, step t b1, b2⟩
    next => cases e1
end AHP
section AHL
variable {E : ahE} {X : ahX} {ρ : Type} {Qf : ρ → ahH → State → Prop} {cc : ByteArray} {nL : Nat} {own : String} {F L pc : Nat} {lv : List (Option Value)} {st : List Value}
theorem ah_Sno : ah_S E X Qf pc lv st ah_no := fun h r n u c hs => by cases hs
theorem ah_met_no {l : Launch} {y : MethodName} {bytes : ByteArray} {rt : Option FieldType} {rv : ρ → Option Value} {av : List Value} : ah_met E l y bytes nL rt F L rv av ah_no := fun h r n u c hs => by cases hs
theorem ah_i2l (C : ah_Cx E X cc nL own F L) {x : Int32} {f : ahM ρ} (hd : decode cc pc = .ok (.i2l, 1)) (kk : ah_S E X Qf (pc + 1) lv (.long x.toInt64 :: st) f) : ah_S E X Qf pc lv (.int x :: st) f :=
  ah_go (fun _ _ _ _ _ _ _ k => lv_i2l C.1 C.2.1 hd rfl k) kk
theorem ah_ladd (C : ah_Cx E X cc nL own F L) {x y : Int64} {f : ahM ρ} (hd : decode cc pc = .ok (.ladd, 1)) (kk : ah_S E X Qf (pc + 1) lv (.long (x + y) :: st) f) : ah_S E X Qf pc lv (.long y :: .long x :: st) f :=
  ah_go (fun _ _ _ _ _ _ _ k => lv_ladd C.1 C.2.1 hd k) kk
theorem ah_lmul (C : ah_Cx E X cc nL own F L) {x y : Int64} {f : ahM ρ} (hd : decode cc pc = .ok (.lmul, 1)) (kk : ah_S E X Qf (pc + 1) lv (.long (x * y) :: st) f) : ah_S E X Qf pc lv (.long y :: .long x :: st) f :=
  ah_go (fun _ _ _ _ _ _ _ k => lv_lmul C.1 C.2.1 hd k) kk
theorem ah_ldc2 (C : ah_Cx E X cc nL own F L) {idx : Nat} {v : Int64} {f : ahM ρ} (hw : Cond.constantLong own idx v ∈ pg_T) (hd : decode cc pc = .ok (.ldc2_w idx, 3)) (kk : ah_S E X Qf (pc + 3) lv (.long v :: st) f) : ah_S E X Qf pc lv st f :=
  ah_go (fun _ _ _ _ _ _ _ k => lv_ldc2 C.1 C.2.1 C.2.2.2.1 (C.2.2.2.2.1 _ hw) hd k) kk
theorem ah_ldcw (C : ah_Cx E X cc nL own F L) {idx : Nat} {v : Int32} {f : ahM ρ} (hw : Cond.constant own idx v ∈ pg_T) (hd : decode cc pc = .ok (.ldc_w idx, 3)) (kk : ah_S E X Qf (pc + 3) lv (.int v :: st) f) : ah_S E X Qf pc lv st f :=
  ah_go (fun _ _ _ _ _ _ _ k => lv_ldcw C.1 C.2.1 C.2.2.2.1 (C.2.2.2.2.1 _ hw) hd k) kk
def ah_sL (j : Nat) (r : Option Nat) (i : Int32) (h : ahH) : Option Unit := match r with
  | none => none
  | some a => if ah_kd h a = 200 + j ∧ ah_in i (ah_ln h a) = true then some () else none
theorem ah_lastore (C : ah_Cx E X cc nL own F L) {j : Nat} {r : Option Nat} {i : Int32} {x : Int64} {f : Unit → ahM ρ} (hj : pg_aty[j]? = some .long) (hd : decode cc pc = .ok (.lastore, 1)) (kk : ah_S E X Qf (pc + 1) lv st (f ())) : ah_S E X Qf pc lv (.long x :: .int i :: va_rf r :: st) (ah_rd (ah_sL j r i) f) := by
  intro h r0 n u c hs H locs ls cells slots h1 h2 h3 h4 h5
  obtain ⟨c1, e1, e2⟩ := ah_rd_some hs
  cases r with
  | none => cases e1
  | some a =>
    unfold ah_sL at e1
    dsimp only at e1
    split at e1
    next hk0 =>
      obtain ⟨hkd, hin⟩ := hk0
      have hin := ah_in_iff.mp hin
      obtain ⟨hx, hb, -, hown, hts, hK, -, -⟩ := C
      obtain ⟨g, hc⟩ := (h1.2.2.2.2 a).2.2.2 j hkd
      have hBa := h1.2.2.2.1 a (by omega) (by omega)
      refine W.last hx hb hc ((hK.2.1 j _ hj).1 _ _) (fun q => by cases q) (by show ¬ (i < 0 ∨ (arrV _ _ _).slots.size ≤ _); rw [arrV_size]; exact hin) rfl rfl hd (fun H1 g1 g2 g3 => ?_)
      refine kk h r0 n u c e2 H1 _ ls cells slots (h1.lng hkd g2 g3 (f := fun k => if k = i.toNatClampNeg then x else g k) ?_ ah_cls98) (fun z hz => ?_) h3 h4 h5
      · rw [g1, arrV_store]
        congr 2
        funext k
        by_cases e : k = i.toNatClampNeg
        · simp [updV, e]
        · simp [updV, e]
      · rcases List.mem_append.mp hz with hz | hz
        · exact h2 z hz
        · rw [List.mem_singleton.mp hz]
          exact hBa.1
    next => cases e1
def ah_nl (j : Nat) (n : Int32) : ahM (Option Nat) := fun h => if ¬ n < 0 ∧ n.toNatClampNeg ≤ 16777216 then some (some h.1, 1, n.toNatClampNeg, (va_up h.2.2.1 h.1 (200 + j, n.toNatClampNeg), va_up (ah_I h) h.1 (fun _ => 0), va_up (ah_P h) h.1 (fun _ => none))) else none
theorem ah_newL (C : ah_Cx E X cc nL own F L) {j : Nat} {x : Int32} {f : Option Nat → ahM ρ} (hj : pg_aty[j]? = some .long) (hw : Cond.arrayClass .long ∈ pg_T) (hd : decode cc pc = .ok (.newarray .long, 2)) (kk : ∀ x, ah_S E X Qf (pc + 2) lv (va_rf x :: st) (f x)) : ah_S E X Qf pc lv (.int x :: st) (ah_bnd (ah_nl j x) f) := by
  intro h r0 n u c hs H locs ls cells slots h1 h2 h3 h4 h5
  obtain ⟨a, n1, u1, c1, n2, u2, e1, e2, rfl, rfl⟩ := ah_bnd_some hs
  unfold ah_nl at e1
  split at e1
  next hg =>
    obtain ⟨hn, hbig⟩ := hg
    cases e1
    obtain ⟨hx, hb, -, hown, hts, hK, -, -⟩ := C
    have hsz : H.size = h.1 := h1.1
    have hbb : x.toNatClampNeg * componentBytes (newarray.typeOf .long) ≤ 536870912 := by
      have h8 : componentBytes (newarray.typeOf .long) = 8 := rfl
      rw [h8]
      omega
    refine va_newaK hx hb (atype := .long) (hts _ hw) rfl hd rfl hn rfl hbb (by omega) (by omega) hsz (fun H1 cA y1 z1 o1 hAr hNm => ?_)
    have hcA : cA = ae_A E j := Option.some.inj (hNm.symm.trans (hK.2.1 j _ hj).2)
    subst hcA
    have w1 := h1.born (kd := 200 + j) (n := x.toNatClampNeg) (u := x.toNatClampNeg) (iv := fun _ => 0) (pv := fun _ => none) (by omega) z1 o1 (fun ci' q' g1 g2 => by
      have := ah_cls98 ci' q' g2
      omega) (fun j' g1 g2 => by omega) (fun j' g1 => by
      have e3 : j' = j := by omega
      subst e3
      exact ⟨fun _ => 0, y1⟩)
    have k2 := kk (some h.1) _ r0 n2 u2 c e2 H1 locs ls (cells + 1) (slots + x.toNatClampNeg) w1 h2 h3 (by omega) (by omega)
    have e4 : ah_nx (ah_nx h 1 x.toNatClampNeg (va_up h.2.2.1 h.1 (200 + j, x.toNatClampNeg), va_up (ah_I h) h.1 (fun _ => 0), va_up (ah_P h) h.1 (fun _ => none))) n2 u2 c = ah_nx h (1 + n2) (x.toNatClampNeg + u2) c := by
      simp only [ah_nx, Nat.add_assoc]
    rw [e4] at k2
    exact k2
  next => cases e1
def ah_gs (h : ahH) : Option (Option Nat) := some (ah_P h 0 0)
theorem ah_gets (C : ah_Cx E X cc nL own F L) {idx : Nat} {f : Option Nat → ahM ρ} (hl : Cond.fieldLink own idx "java/util/ArrayList" "DEFAULTCAPACITY_EMPTY_ELEMENTDATA" "[Ljava/lang/Object;" ∈ pg_T) (hd : decode cc pc = .ok (.getstatic idx, 3)) (kk : ∀ x, ah_S E X Qf (pc + 3) lv (va_rf x :: st) (f x)) : ah_S E X Qf pc lv st (ah_rd ah_gs f) := by
  intro h r0 n u c hs H locs ls cells slots h1 h2 h3 h4 h5
  obtain ⟨x, e1, e2⟩ := ah_rd_some hs
  cases e1
  have k2 := kk _ h r0 n u c e2 H locs ls cells slots h1 h2 h3 h4 h5
  rw [h1.2.1.2.2] at k2
  obtain ⟨hx, hb, -, hown, hts, hK, -, -⟩ := C
  obtain ⟨cf, kf, fi, fd, a, cell, g1, g2, g3, g4, g5, g6, g7, g8⟩ := hK.2.2.2.2.2
  exact W.gets hx hb hown (hts _ hl) g1 g2 g3 g4 (by rw [h1.2.2.1 a (Nat.not_le.mp g8)]; exact g5) (fun q => by rw [q] at g6; cases g6) g7 rfl hd k2
end AHL
end
