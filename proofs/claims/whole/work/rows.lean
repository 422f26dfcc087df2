section
-- ===== PART A: goes FIRST, ahead of the names: the tables' words, and 'selects' of the private methods out of them =====
/-- a private method of a class that the tables say can be made, by its rows of tables_1 -/
def lw_okq (q : MethodName × Nat) : Prop := (q.1.cls ≠ "java/lang/invoke/MethodHandle" ∧ q.1.cls ≠ "java/lang/invoke/VarHandle") ∧ Cond.instantiable q.1.cls q.2 ∈ tables_1 ∧ Cond.privateMethod q.1 ∈ tables_1 ∧ Cond.instanceMethod q.1 ∈ tables_1
theorem lw_p0 : lw_okq (⟨"StickRelay$Roster", "scan", "()V"⟩, 8) := ⟨⟨by decide +kernel, by decide +kernel⟩, List.mem_of_getElem? (i := 23) (by decide +kernel), List.mem_of_getElem? (i := 222) (by decide +kernel), List.mem_of_getElem? (i := 223) (by decide +kernel)⟩
theorem lw_p1 : lw_okq (⟨"StickRelay$Roster", "canGoOn", "(I)Z"⟩, 8) := ⟨⟨by decide +kernel, by decide +kernel⟩, List.mem_of_getElem? (i := 23) (by decide +kernel), List.mem_of_getElem? (i := 226) (by decide +kernel), List.mem_of_getElem? (i := 227) (by decide +kernel)⟩
theorem lw_p2 : lw_okq (⟨"StickRelay$Roster", "twoFigures", "(I)I"⟩, 8) := ⟨⟨by decide +kernel, by decide +kernel⟩, List.mem_of_getElem? (i := 23) (by decide +kernel), List.mem_of_getElem? (i := 231) (by decide +kernel), List.mem_of_getElem? (i := 232) (by decide +kernel)⟩
theorem lw_p3 : lw_okq (⟨"StickRelay$Roster", "readFigures", "(I)V"⟩, 8) := ⟨⟨by decide +kernel, by decide +kernel⟩, List.mem_of_getElem? (i := 23) (by decide +kernel), List.mem_of_getElem? (i := 235) (by decide +kernel), List.mem_of_getElem? (i := 236) (by decide +kernel)⟩
theorem lw_p4 : lw_okq (⟨"StickRelay", "isNobody", "(I)Z"⟩, 7) := ⟨⟨by decide +kernel, by decide +kernel⟩, List.mem_of_getElem? (i := 15) (by decide +kernel), List.mem_of_getElem? (i := 263) (by decide +kernel), List.mem_of_getElem? (i := 264) (by decide +kernel)⟩
theorem lw_p5 : lw_okq (⟨"StickRelay$Track", "headroom", "(IIIII)I"⟩, 3) := ⟨⟨by decide +kernel, by decide +kernel⟩, List.mem_of_getElem? (i := 64) (by decide +kernel), List.mem_of_getElem? (i := 371) (by decide +kernel), List.mem_of_getElem? (i := 372) (by decide +kernel)⟩
theorem lw_p6 : lw_okq (⟨"StickRelay$Odds", "weigh", "(I)V"⟩, 3) := ⟨⟨by decide +kernel, by decide +kernel⟩, List.mem_of_getElem? (i := 109) (by decide +kernel), List.mem_of_getElem? (i := 415) (by decide +kernel), List.mem_of_getElem? (i := 416) (by decide +kernel)⟩
theorem lw_p7 : lw_okq (⟨"StickRelay$Odds", "slipAt", "(I)I"⟩, 3) := ⟨⟨by decide +kernel, by decide +kernel⟩, List.mem_of_getElem? (i := 109) (by decide +kernel), List.mem_of_getElem? (i := 419) (by decide +kernel), List.mem_of_getElem? (i := 420) (by decide +kernel)⟩
theorem lw_p8 : lw_okq (⟨"StickRelay$Odds", "sharesAt", "(I)I"⟩, 3) := ⟨⟨by decide +kernel, by decide +kernel⟩, List.mem_of_getElem? (i := 109) (by decide +kernel), List.mem_of_getElem? (i := 427) (by decide +kernel), List.mem_of_getElem? (i := 428) (by decide +kernel)⟩
theorem lw_p9 : lw_okq (⟨"StickRelay$Orders", "weighPairs", "(I)V"⟩, 5) := ⟨⟨by decide +kernel, by decide +kernel⟩, List.mem_of_getElem? (i := 125) (by decide +kernel), List.mem_of_getElem? (i := 471) (by decide +kernel), List.mem_of_getElem? (i := 472) (by decide +kernel)⟩
theorem lw_p10 : lw_okq (⟨"StickRelay$Orders", "canChangeHands", "(IIII)Z"⟩, 5) := ⟨⟨by decide +kernel, by decide +kernel⟩, List.mem_of_getElem? (i := 125) (by decide +kernel), List.mem_of_getElem? (i := 486) (by decide +kernel), List.mem_of_getElem? (i := 487) (by decide +kernel)⟩
theorem lw_p11 : lw_okq (⟨"StickRelay$Orders", "consider", "(IIII)V"⟩, 5) := ⟨⟨by decide +kernel, by decide +kernel⟩, List.mem_of_getElem? (i := 125) (by decide +kernel), List.mem_of_getElem? (i := 490) (by decide +kernel), List.mem_of_getElem? (i := 491) (by decide +kernel)⟩
theorem lw_p12 : lw_okq (⟨"StickRelay$Lots", "lotOfSixteen", "()I"⟩, 2) := ⟨⟨by decide +kernel, by decide +kernel⟩, List.mem_of_getElem? (i := 150) (by decide +kernel), List.mem_of_getElem? (i := 514) (by decide +kernel), List.mem_of_getElem? (i := 515) (by decide +kernel)⟩
theorem lw_p13 : lw_okq (⟨"StickRelayModel", "met", "(I)I"⟩, 17) := ⟨⟨by decide +kernel, by decide +kernel⟩, List.mem_of_getElem? (i := 605) (by decide +kernel), List.mem_of_getElem? (i := 675) (by decide +kernel), List.mem_of_getElem? (i := 676) (by decide +kernel)⟩
theorem lw_p14 : lw_okq (⟨"StickRelayModel", "lacks", "(III)I"⟩, 17) := ⟨⟨by decide +kernel, by decide +kernel⟩, List.mem_of_getElem? (i := 605) (by decide +kernel), List.mem_of_getElem? (i := 687) (by decide +kernel), List.mem_of_getElem? (i := 688) (by decide +kernel)⟩
theorem lw_p15 : lw_okq (⟨"StickRelayModel", "reads", "()I"⟩, 17) := ⟨⟨by decide +kernel, by decide +kernel⟩, List.mem_of_getElem? (i := 605) (by decide +kernel), List.mem_of_getElem? (i := 720) (by decide +kernel), List.mem_of_getElem? (i := 721) (by decide +kernel)⟩
def lw_privs_1 : List (MethodName × Nat) := [(⟨"StickRelay$Roster", "scan", "()V"⟩, 8), (⟨"StickRelay$Roster", "canGoOn", "(I)Z"⟩, 8), (⟨"StickRelay$Roster", "twoFigures", "(I)I"⟩, 8), (⟨"StickRelay$Roster", "readFigures", "(I)V"⟩, 8), (⟨"StickRelay", "isNobody", "(I)Z"⟩, 7), (⟨"StickRelay$Track", "headroom", "(IIIII)I"⟩, 3), (⟨"StickRelay$Odds", "weigh", "(I)V"⟩, 3), (⟨"StickRelay$Odds", "slipAt", "(I)I"⟩, 3), (⟨"StickRelay$Odds", "sharesAt", "(I)I"⟩, 3), (⟨"StickRelay$Orders", "weighPairs", "(I)V"⟩, 5), (⟨"StickRelay$Orders", "canChangeHands", "(IIII)Z"⟩, 5), (⟨"StickRelay$Orders", "consider", "(IIII)V"⟩, 5), (⟨"StickRelay$Lots", "lotOfSixteen", "()I"⟩, 2), (⟨"StickRelayModel", "met", "(I)I"⟩, 17), (⟨"StickRelayModel", "lacks", "(III)I"⟩, 17), (⟨"StickRelayModel", "reads", "()I"⟩, 17)]
theorem lw_r1 : ∀ q ∈ lw_privs_1, lw_okq q := List.forall_mem_cons.mpr ⟨lw_p0, List.forall_mem_cons.mpr ⟨lw_p1, List.forall_mem_cons.mpr ⟨lw_p2, List.forall_mem_cons.mpr ⟨lw_p3, List.forall_mem_cons.mpr ⟨lw_p4, List.forall_mem_cons.mpr ⟨lw_p5, List.forall_mem_cons.mpr ⟨lw_p6, List.forall_mem_cons.mpr ⟨lw_p7, List.forall_mem_cons.mpr ⟨lw_p8, List.forall_mem_cons.mpr ⟨lw_p9, List.forall_mem_cons.mpr ⟨lw_p10, List.forall_mem_cons.mpr ⟨lw_p11, List.forall_mem_cons.mpr ⟨lw_p12, List.forall_mem_cons.mpr ⟨lw_p13, List.forall_mem_cons.mpr ⟨lw_p14, List.forall_mem_cons.mpr ⟨lw_p15, fun _ h => absurd h List.not_mem_nil⟩⟩⟩⟩⟩⟩⟩⟩⟩⟩⟩⟩⟩⟩⟩⟩
theorem lw_p16 : lw_okq (⟨"StickRelayModel", "readsPart", "()Z"⟩, 17) := ⟨⟨by decide +kernel, by decide +kernel⟩, List.mem_of_getElem? (i := 605) (by decide +kernel), List.mem_of_getElem? (i := 724) (by decide +kernel), List.mem_of_getElem? (i := 725) (by decide +kernel)⟩
theorem lw_p17 : lw_okq (⟨"StickRelayModel", "here", "()I"⟩, 17) := ⟨⟨by decide +kernel, by decide +kernel⟩, List.mem_of_getElem? (i := 605) (by decide +kernel), List.mem_of_getElem? (i := 728) (by decide +kernel), List.mem_of_getElem? (i := 729) (by decide +kernel)⟩
theorem lw_p18 : lw_okq (⟨"StickRelayModel", "nobody", "()I"⟩, 17) := ⟨⟨by decide +kernel, by decide +kernel⟩, List.mem_of_getElem? (i := 605) (by decide +kernel), List.mem_of_getElem? (i := 733) (by decide +kernel), List.mem_of_getElem? (i := 734) (by decide +kernel)⟩
theorem lw_p19 : lw_okq (⟨"StickRelayModel", "takesOf", "(III)I"⟩, 17) := ⟨⟨by decide +kernel, by decide +kernel⟩, List.mem_of_getElem? (i := 605) (by decide +kernel), List.mem_of_getElem? (i := 782) (by decide +kernel), List.mem_of_getElem? (i := 783) (by decide +kernel)⟩
theorem lw_p20 : lw_okq (⟨"StickRelayModel", "areThere", "()Z"⟩, 17) := ⟨⟨by decide +kernel, by decide +kernel⟩, List.mem_of_getElem? (i := 605) (by decide +kernel), List.mem_of_getElem? (i := 796) (by decide +kernel), List.mem_of_getElem? (i := 797) (by decide +kernel)⟩
theorem lw_p21 : lw_okq (⟨"StickRelayModel", "goesOff", "(I)I"⟩, 17) := ⟨⟨by decide +kernel, by decide +kernel⟩, List.mem_of_getElem? (i := 605) (by decide +kernel), List.mem_of_getElem? (i := 800) (by decide +kernel), List.mem_of_getElem? (i := 801) (by decide +kernel)⟩
theorem lw_p22 : lw_okq (⟨"StickRelayModel", "delay", "(IIII)I"⟩, 17) := ⟨⟨by decide +kernel, by decide +kernel⟩, List.mem_of_getElem? (i := 605) (by decide +kernel), List.mem_of_getElem? (i := 804) (by decide +kernel), List.mem_of_getElem? (i := 805) (by decide +kernel)⟩
theorem lw_p23 : lw_okq (⟨"StickRelayModel", "meetNow", "(I)I"⟩, 17) := ⟨⟨by decide +kernel, by decide +kernel⟩, List.mem_of_getElem? (i := 605) (by decide +kernel), List.mem_of_getElem? (i := 812) (by decide +kernel), List.mem_of_getElem? (i := 813) (by decide +kernel)⟩
theorem lw_p24 : lw_okq (⟨"StickRelayModel", "meetOf", "(III)I"⟩, 17) := ⟨⟨by decide +kernel, by decide +kernel⟩, List.mem_of_getElem? (i := 605) (by decide +kernel), List.mem_of_getElem? (i := 816) (by decide +kernel), List.mem_of_getElem? (i := 817) (by decide +kernel)⟩
theorem lw_p25 : lw_okq (⟨"StickRelayModel", "meetBy", "(IIIII)I"⟩, 17) := ⟨⟨by decide +kernel, by decide +kernel⟩, List.mem_of_getElem? (i := 605) (by decide +kernel), List.mem_of_getElem? (i := 820) (by decide +kernel), List.mem_of_getElem? (i := 821) (by decide +kernel)⟩
theorem lw_p26 : lw_okq (⟨"StickRelayModel", "kindNow", "(I)I"⟩, 17) := ⟨⟨by decide +kernel, by decide +kernel⟩, List.mem_of_getElem? (i := 605) (by decide +kernel), List.mem_of_getElem? (i := 828) (by decide +kernel), List.mem_of_getElem? (i := 829) (by decide +kernel)⟩
theorem lw_p27 : lw_okq (⟨"StickRelayModel", "timeOf", "()I"⟩, 17) := ⟨⟨by decide +kernel, by decide +kernel⟩, List.mem_of_getElem? (i := 605) (by decide +kernel), List.mem_of_getElem? (i := 836) (by decide +kernel), List.mem_of_getElem? (i := 837) (by decide +kernel)⟩
theorem lw_p28 : lw_okq (⟨"StickRelayModel", "carriesNow", "(I)I"⟩, 17) := ⟨⟨by decide +kernel, by decide +kernel⟩, List.mem_of_getElem? (i := 605) (by decide +kernel), List.mem_of_getElem? (i := 844) (by decide +kernel), List.mem_of_getElem? (i := 845) (by decide +kernel)⟩
theorem lw_p29 : lw_okq (⟨"StickRelayModel", "carriesOf", "(I)I"⟩, 17) := ⟨⟨by decide +kernel, by decide +kernel⟩, List.mem_of_getElem? (i := 605) (by decide +kernel), List.mem_of_getElem? (i := 848) (by decide +kernel), List.mem_of_getElem? (i := 849) (by decide +kernel)⟩
theorem lw_p30 : lw_okq (⟨"StickRelayModel", "chanceNow", "(I)I"⟩, 17) := ⟨⟨by decide +kernel, by decide +kernel⟩, List.mem_of_getElem? (i := 605) (by decide +kernel), List.mem_of_getElem? (i := 856) (by decide +kernel), List.mem_of_getElem? (i := 857) (by decide +kernel)⟩
theorem lw_p31 : lw_okq (⟨"StickRelayModel", "chanceBy", "(II)I"⟩, 17) := ⟨⟨by decide +kernel, by decide +kernel⟩, List.mem_of_getElem? (i := 605) (by decide +kernel), List.mem_of_getElem? (i := 860) (by decide +kernel), List.mem_of_getElem? (i := 861) (by decide +kernel)⟩
def lw_privs_2 : List (MethodName × Nat) := [(⟨"StickRelayModel", "readsPart", "()Z"⟩, 17), (⟨"StickRelayModel", "here", "()I"⟩, 17), (⟨"StickRelayModel", "nobody", "()I"⟩, 17), (⟨"StickRelayModel", "takesOf", "(III)I"⟩, 17), (⟨"StickRelayModel", "areThere", "()Z"⟩, 17), (⟨"StickRelayModel", "goesOff", "(I)I"⟩, 17), (⟨"StickRelayModel", "delay", "(IIII)I"⟩, 17), (⟨"StickRelayModel", "meetNow", "(I)I"⟩, 17), (⟨"StickRelayModel", "meetOf", "(III)I"⟩, 17), (⟨"StickRelayModel", "meetBy", "(IIIII)I"⟩, 17), (⟨"StickRelayModel", "kindNow", "(I)I"⟩, 17), (⟨"StickRelayModel", "timeOf", "()I"⟩, 17), (⟨"StickRelayModel", "carriesNow", "(I)I"⟩, 17), (⟨"StickRelayModel", "carriesOf", "(I)I"⟩, 17), (⟨"StickRelayModel", "chanceNow", "(I)I"⟩, 17), (⟨"StickRelayModel", "chanceBy", "(II)I"⟩, 17)]
theorem lw_r2 : ∀ q ∈ lw_privs_2, lw_okq q := List.forall_mem_cons.mpr ⟨lw_p16, List.forall_mem_cons.mpr ⟨lw_p17, List.forall_mem_cons.mpr ⟨lw_p18, List.forall_mem_cons.mpr ⟨lw_p19, List.forall_mem_cons.mpr ⟨lw_p20, List.forall_mem_cons.mpr ⟨lw_p21, List.forall_mem_cons.mpr ⟨lw_p22, List.forall_mem_cons.mpr ⟨lw_p23, List.forall_mem_cons.mpr ⟨lw_p24, List.forall_mem_cons.mpr ⟨lw_p25, List.forall_mem_cons.mpr ⟨lw_p26, List.forall_mem_cons.mpr ⟨lw_p27, List.forall_mem_cons.mpr ⟨lw_p28, List.forall_mem_cons.mpr ⟨lw_p29, List.forall_mem_cons.mpr ⟨lw_p30, List.forall_mem_cons.mpr ⟨lw_p31, fun _ h => absurd h List.not_mem_nil⟩⟩⟩⟩⟩⟩⟩⟩⟩⟩⟩⟩⟩⟩⟩⟩
theorem lw_p32 : lw_okq (⟨"StickRelayModel", "allNow", "(I)J"⟩, 17) := ⟨⟨by decide +kernel, by decide +kernel⟩, List.mem_of_getElem? (i := 605) (by decide +kernel), List.mem_of_getElem? (i := 871) (by decide +kernel), List.mem_of_getElem? (i := 872) (by decide +kernel)⟩
theorem lw_p33 : lw_okq (⟨"StickRelayModel", "safeNow", "(II)I"⟩, 17) := ⟨⟨by decide +kernel, by decide +kernel⟩, List.mem_of_getElem? (i := 605) (by decide +kernel), List.mem_of_getElem? (i := 888) (by decide +kernel), List.mem_of_getElem? (i := 889) (by decide +kernel)⟩
theorem lw_p34 : lw_okq (⟨"StickRelayModel", "bestNow", "(I)I"⟩, 17) := ⟨⟨by decide +kernel, by decide +kernel⟩, List.mem_of_getElem? (i := 605) (by decide +kernel), List.mem_of_getElem? (i := 896) (by decide +kernel), List.mem_of_getElem? (i := 897) (by decide +kernel)⟩
theorem lw_p35 : lw_okq (⟨"StickRelayModel", "bestBy", "(IIII)I"⟩, 17) := ⟨⟨by decide +kernel, by decide +kernel⟩, List.mem_of_getElem? (i := 605) (by decide +kernel), List.mem_of_getElem? (i := 900) (by decide +kernel), List.mem_of_getElem? (i := 901) (by decide +kernel)⟩
theorem lw_p36 : lw_okq (⟨"StickRelayModel", "lost", "(I)I"⟩, 17) := ⟨⟨by decide +kernel, by decide +kernel⟩, List.mem_of_getElem? (i := 605) (by decide +kernel), List.mem_of_getElem? (i := 904) (by decide +kernel), List.mem_of_getElem? (i := 905) (by decide +kernel)⟩
theorem lw_p37 : lw_okq (⟨"StickRelayModel", "orderOf", "(II)I"⟩, 17) := ⟨⟨by decide +kernel, by decide +kernel⟩, List.mem_of_getElem? (i := 605) (by decide +kernel), List.mem_of_getElem? (i := 914) (by decide +kernel), List.mem_of_getElem? (i := 915) (by decide +kernel)⟩
theorem lw_p38 : lw_okq (⟨"StickRelayModel", "looks", "()V"⟩, 17) := ⟨⟨by decide +kernel, by decide +kernel⟩, List.mem_of_getElem? (i := 605) (by decide +kernel), List.mem_of_getElem? (i := 918) (by decide +kernel), List.mem_of_getElem? (i := 919) (by decide +kernel)⟩
theorem lw_p39 : lw_okq (⟨"StickRelayModel", "hands", "()Z"⟩, 17) := ⟨⟨by decide +kernel, by decide +kernel⟩, List.mem_of_getElem? (i := 605) (by decide +kernel), List.mem_of_getElem? (i := 922) (by decide +kernel), List.mem_of_getElem? (i := 923) (by decide +kernel)⟩
theorem lw_p40 : lw_okq (⟨"StickRelayModel", "blameNow", "(II)I"⟩, 17) := ⟨⟨by decide +kernel, by decide +kernel⟩, List.mem_of_getElem? (i := 605) (by decide +kernel), List.mem_of_getElem? (i := 930) (by decide +kernel), List.mem_of_getElem? (i := 931) (by decide +kernel)⟩
theorem lw_p41 : lw_okq (⟨"StickRelayModel", "raceOn", "()I"⟩, 17) := ⟨⟨by decide +kernel, by decide +kernel⟩, List.mem_of_getElem? (i := 605) (by decide +kernel), List.mem_of_getElem? (i := 938) (by decide +kernel), List.mem_of_getElem? (i := 939) (by decide +kernel)⟩
theorem lw_p42 : lw_okq (⟨"StickRelayModel", "slipByLot", "()I"⟩, 17) := ⟨⟨by decide +kernel, by decide +kernel⟩, List.mem_of_getElem? (i := 605) (by decide +kernel), List.mem_of_getElem? (i := 942) (by decide +kernel), List.mem_of_getElem? (i := 943) (by decide +kernel)⟩
theorem lw_p43 : lw_okq (⟨"StickRelayModel", "racesNow", "(III)I"⟩, 17) := ⟨⟨by decide +kernel, by decide +kernel⟩, List.mem_of_getElem? (i := 605) (by decide +kernel), List.mem_of_getElem? (i := 952) (by decide +kernel), List.mem_of_getElem? (i := 953) (by decide +kernel)⟩
theorem lw_p44 : lw_okq (⟨"StickRelayModel", "unlike", "()I"⟩, 17) := ⟨⟨by decide +kernel, by decide +kernel⟩, List.mem_of_getElem? (i := 605) (by decide +kernel), List.mem_of_getElem? (i := 964) (by decide +kernel), List.mem_of_getElem? (i := 965) (by decide +kernel)⟩
def lw_privs_3 : List (MethodName × Nat) := [(⟨"StickRelayModel", "allNow", "(I)J"⟩, 17), (⟨"StickRelayModel", "safeNow", "(II)I"⟩, 17), (⟨"StickRelayModel", "bestNow", "(I)I"⟩, 17), (⟨"StickRelayModel", "bestBy", "(IIII)I"⟩, 17), (⟨"StickRelayModel", "lost", "(I)I"⟩, 17), (⟨"StickRelayModel", "orderOf", "(II)I"⟩, 17), (⟨"StickRelayModel", "looks", "()V"⟩, 17), (⟨"StickRelayModel", "hands", "()Z"⟩, 17), (⟨"StickRelayModel", "blameNow", "(II)I"⟩, 17), (⟨"StickRelayModel", "raceOn", "()I"⟩, 17), (⟨"StickRelayModel", "slipByLot", "()I"⟩, 17), (⟨"StickRelayModel", "racesNow", "(III)I"⟩, 17), (⟨"StickRelayModel", "unlike", "()I"⟩, 17)]
theorem lw_r3 : ∀ q ∈ lw_privs_3, lw_okq q := List.forall_mem_cons.mpr ⟨lw_p32, List.forall_mem_cons.mpr ⟨lw_p33, List.forall_mem_cons.mpr ⟨lw_p34, List.forall_mem_cons.mpr ⟨lw_p35, List.forall_mem_cons.mpr ⟨lw_p36, List.forall_mem_cons.mpr ⟨lw_p37, List.forall_mem_cons.mpr ⟨lw_p38, List.forall_mem_cons.mpr ⟨lw_p39, List.forall_mem_cons.mpr ⟨lw_p40, List.forall_mem_cons.mpr ⟨lw_p41, List.forall_mem_cons.mpr ⟨lw_p42, List.forall_mem_cons.mpr ⟨lw_p43, List.forall_mem_cons.mpr ⟨lw_p44, fun _ h => absurd h List.not_mem_nil⟩⟩⟩⟩⟩⟩⟩⟩⟩⟩⟩⟩⟩
def lw_privs : List (MethodName × Nat) := lw_privs_1 ++ (lw_privs_2 ++ (lw_privs_3))
def lw_tbl : List Cond := k2_sels lw_privs ++ tables_1
theorem lw_privs_ok : ∀ q ∈ lw_privs, lw_okq q := by
  show ∀ q ∈ lw_privs_1 ++ (lw_privs_2 ++ (lw_privs_3)), lw_okq q
  exact List.forall_mem_append.mpr ⟨lw_r1, List.forall_mem_append.mpr ⟨lw_r2, lw_r3⟩⟩
-- ===== end of PART A; then your names; then what follows =====
end
section


/-! ===== BEGIN printed: names, fields, word lists, decode rows ===== -/
def RX0 : String := "StickRelay$Lots"
def TX0 : u_T := fun k => match k with
  | 0 => ("StickRelay$Lots", "slips", "[I", true)
  | _ => ("StickRelay$Lots", "seed", "I", false)
def tyX0 : Nat → FieldType := fun k => match k with
  | 0 => .array .int
  | _ => .int
abbrev wsX00 : List Cond := u_ws RX0 TX0 2
theorem nmX0 : ∀ a, a < 2 → ∀ b, b < 2 → a ≠ b → (TX0 a).2.1 ≠ (TX0 b).2.1 := by decide +kernel
theorem tyX0_ok : ∀ k, k < 2 → parseFieldDescriptor (TX0 k).2.2.1 = some (tyX0 k) := by decide +kernel
abbrev cX0_init : ByteArray := prog_2_method_1_code
def yX0_init : MethodName := ⟨RX0, "<init>", "()V"⟩
abbrev cX0_drawSlips : ByteArray := prog_2_method_2_code
def yX0_drawSlips : MethodName := ⟨RX0, "drawSlips", "(I)V"⟩
abbrev cX0_lotOfSixteen : ByteArray := prog_2_method_3_code
def yX0_lotOfSixteen : MethodName := ⟨RX0, "lotOfSixteen", "()I"⟩
def RX1 : String := "StickRelay$Odds"
def TX1 : u_T := fun k => match k with
  | 0 => ("StickRelay$Odds", "track", "LStickRelay$Track;", true)
  | 1 => ("StickRelay$Odds", "race", "LStickRelay$Race;", true)
  | _ => ("StickRelay$Odds", "farthest", "[I", true)
def tyX1 : Nat → FieldType := fun k => match k with
  | 0 => .object "StickRelay$Track"
  | 1 => .object "StickRelay$Race"
  | _ => .array .int
abbrev wsX10 : List Cond := u_ws RX1 TX1 3
theorem nmX1 : ∀ a, a < 3 → ∀ b, b < 3 → a ≠ b → (TX1 a).2.1 ≠ (TX1 b).2.1 := by decide +kernel
theorem tyX1_ok : ∀ k, k < 3 → parseFieldDescriptor (TX1 k).2.2.1 = some (tyX1 k) := by decide +kernel
abbrev cX1_init : ByteArray := prog_3_method_1_code
def yX1_init : MethodName := ⟨RX1, "<init>", "(LStickRelay$Track;LStickRelay$Race;)V"⟩
abbrev cX1_sixteenths : ByteArray := prog_3_method_2_code
def yX1_sixteenths : MethodName := ⟨RX1, "sixteenths", "(I)I"⟩
abbrev cX1_fractionOfAll : ByteArray := prog_3_method_3_code
def yX1_fractionOfAll : MethodName := ⟨RX1, "fractionOfAll", "(I)I"⟩
abbrev cX1_safest : ByteArray := prog_3_method_4_code
def yX1_safest : MethodName := ⟨RX1, "safest", "(II)I"⟩
abbrev cX1_guilty : ByteArray := prog_3_method_5_code
def yX1_guilty : MethodName := ⟨RX1, "guilty", "(II)I"⟩
abbrev cX1_slipAt : ByteArray := prog_3_method_6_code
def yX1_slipAt : MethodName := ⟨RX1, "slipAt", "(I)I"⟩
abbrev cX1_weigh : ByteArray := prog_3_method_7_code
def yX1_weigh : MethodName := ⟨RX1, "weigh", "(I)V"⟩
abbrev cX1_sharesAt : ByteArray := prog_3_method_8_code
def yX1_sharesAt : MethodName := ⟨RX1, "sharesAt", "(I)I"⟩
def RX2 : String := "StickRelay$Orders"
def TX2 : u_T := fun k => match k with
  | 0 => ("StickRelay$Orders", "roster", "LStickRelay$Roster;", true)
  | 1 => ("StickRelay$Orders", "track", "LStickRelay$Track;", true)
  | 2 => ("StickRelay$Orders", "marks", "[[I", true)
  | 3 => ("StickRelay$Orders", "legs", "[[I", true)
  | _ => ("StickRelay$Orders", "told", "[I", true)
def tyX2 : Nat → FieldType := fun k => match k with
  | 0 => .object "StickRelay$Roster"
  | 1 => .object "StickRelay$Track"
  | 2 => .array (.array .int)
  | 3 => .array (.array .int)
  | _ => .array .int
abbrev wsX20 : List Cond := u_ws RX2 TX2 5
theorem nmX2 : ∀ a, a < 5 → ∀ b, b < 5 → a ≠ b → (TX2 a).2.1 ≠ (TX2 b).2.1 := by decide +kernel
theorem tyX2_ok : ∀ k, k < 5 → parseFieldDescriptor (TX2 k).2.2.1 = some (tyX2 k) := by decide +kernel
abbrev cX2_init : ByteArray := prog_4_method_1_code
def yX2_init : MethodName := ⟨RX2, "<init>", "(LStickRelay$Roster;LStickRelay$Track;)V"⟩
abbrev cX2_search : ByteArray := prog_4_method_2_code
def yX2_search : MethodName := ⟨RX2, "search", "(I)V"⟩
abbrev cX2_weighPairs : ByteArray := prog_4_method_3_code
def yX2_weighPairs : MethodName := ⟨RX2, "weighPairs", "(I)V"⟩
abbrev cX2_areUnlike : ByteArray := prog_4_method_4_code
def yX2_areUnlike : MethodName := ⟨RX2, "areUnlike", "(IIIII)Z"⟩
abbrev cX2_canChangeHands : ByteArray := prog_4_method_5_code
def yX2_canChangeHands : MethodName := ⟨RX2, "canChangeHands", "(IIII)Z"⟩
abbrev cX2_consider : ByteArray := prog_4_method_6_code
def yX2_consider : MethodName := ⟨RX2, "consider", "(IIII)V"⟩
def RX3 : String := "StickRelay$Race"
def TX3 : u_T := fun k => match k with
  | 0 => ("StickRelay$Race", "roster", "LStickRelay$Roster;", true)
  | 1 => ("StickRelay$Race", "track", "LStickRelay$Track;", true)
  | 2 => ("StickRelay$Race", "runs", "[I", true)
  | 3 => ("StickRelay$Race", "marks", "[I", true)
  | _ => ("StickRelay$Race", "slips", "[I", true)
def tyX3 : Nat → FieldType := fun k => match k with
  | 0 => .object "StickRelay$Roster"
  | 1 => .object "StickRelay$Track"
  | 2 => .array .int
  | 3 => .array .int
  | _ => .array .int
abbrev wsX30 : List Cond := u_ws RX3 TX3 5
theorem nmX3 : ∀ a, a < 5 → ∀ b, b < 5 → a ≠ b → (TX3 a).2.1 ≠ (TX3 b).2.1 := by decide +kernel
theorem tyX3_ok : ∀ k, k < 5 → parseFieldDescriptor (TX3 k).2.2.1 = some (tyX3 k) := by decide +kernel
abbrev cX3_init : ByteArray := prog_5_method_1_code
def yX3_init : MethodName := ⟨RX3, "<init>", "(LStickRelay$Roster;LStickRelay$Track;)V"⟩
abbrev cX3_lacksSomebody : ByteArray := prog_5_method_2_code
def yX3_lacksSomebody : MethodName := ⟨RX3, "lacksSomebody", "()Z"⟩
abbrev cX3_unlikeOnes : ByteArray := prog_5_method_3_code
def yX3_unlikeOnes : MethodName := ⟨RX3, "unlikeOnes", "()I"⟩
abbrev cX3_offAt : ByteArray := prog_5_method_4_code
def yX3_offAt : MethodName := ⟨RX3, "offAt", "(I)I"⟩
abbrev cX3_meeting : ByteArray := prog_5_method_5_code
def yX3_meeting : MethodName := ⟨RX3, "meeting", "(II)I"⟩
abbrev cX3_bestMark : ByteArray := prog_5_method_6_code
def yX3_bestMark : MethodName := ⟨RX3, "bestMark", "(I)I"⟩
abbrev cX3_timeBy : ByteArray := prog_5_method_7_code
def yX3_timeBy : MethodName := ⟨RX3, "timeBy", "([I)I"⟩
abbrev cX3_carried : ByteArray := prog_5_method_8_code
def yX3_carried : MethodName := ⟨RX3, "carried", "(I)I"⟩
def RX4 : String := "StickRelay$Roster"
def TX4 : u_T := fun k => match k with
  | 0 => ("StickRelay$Roster", "text", "[I", true)
  | 1 => ("StickRelay$Roster", "full", "[I", true)
  | 2 => ("StickRelay$Roster", "slow", "[I", true)
  | 3 => ("StickRelay$Roster", "rise", "[I", true)
  | 4 => ("StickRelay$Roster", "hands", "[I", true)
  | 5 => ("StickRelay$Roster", "length", "I", false)
  | 6 => ("StickRelay$Roster", "fault", "I", false)
  | _ => ("StickRelay$Roster", "count", "I", false)
def tyX4 : Nat → FieldType := fun k => match k with
  | 0 => .array .int
  | 1 => .array .int
  | 2 => .array .int
  | 3 => .array .int
  | 4 => .array .int
  | 5 => .int
  | 6 => .int
  | _ => .int
abbrev wsX40 : List Cond := u_ws RX4 TX4 8
theorem nmX4 : ∀ a, a < 8 → ∀ b, b < 8 → a ≠ b → (TX4 a).2.1 ≠ (TX4 b).2.1 := by decide +kernel
theorem tyX4_ok : ∀ k, k < 8 → parseFieldDescriptor (TX4 k).2.2.1 = some (tyX4 k) := by decide +kernel
abbrev cX4_init : ByteArray := prog_6_method_1_code
def yX4_init : MethodName := ⟨RX4, "<init>", "()V"⟩
abbrev cX4_append : ByteArray := prog_6_method_2_code
def yX4_append : MethodName := ⟨RX4, "append", "(I)Z"⟩
abbrev cX4_dropLast : ByteArray := prog_6_method_3_code
def yX4_dropLast : MethodName := ⟨RX4, "dropLast", "()Z"⟩
abbrev cX4_clear : ByteArray := prog_6_method_4_code
def yX4_clear : MethodName := ⟨RX4, "clear", "()I"⟩
abbrev cX4_figure : ByteArray := prog_6_method_5_code
def yX4_figure : MethodName := ⟨RX4, "figure", "(II)I"⟩
abbrev cX4_scan : ByteArray := prog_6_method_6_code
def yX4_scan : MethodName := ⟨RX4, "scan", "()V"⟩
abbrev cX4_canGoOn : ByteArray := prog_6_method_7_code
def yX4_canGoOn : MethodName := ⟨RX4, "canGoOn", "(I)Z"⟩
abbrev cX4_readFigures : ByteArray := prog_6_method_8_code
def yX4_readFigures : MethodName := ⟨RX4, "readFigures", "(I)V"⟩
abbrev cX4_twoFigures : ByteArray := prog_6_method_9_code
def yX4_twoFigures : MethodName := ⟨RX4, "twoFigures", "(I)I"⟩
def RX5 : String := "StickRelay$Sheets"
def TX5 : u_T := fun k => match k with
  | 0 => ("StickRelay$Sheets", "items", "[[I", true)
  | 1 => ("StickRelay$Sheets", "forms", "[I", true)
  | 2 => ("StickRelay$Sheets", "sizes", "[I", true)
  | _ => ("StickRelay$Sheets", "finding", "I", false)
def tyX5 : Nat → FieldType := fun k => match k with
  | 0 => .array (.array .int)
  | 1 => .array .int
  | 2 => .array .int
  | _ => .int
abbrev wsX50 : List Cond := u_ws RX5 TX5 4
theorem nmX5 : ∀ a, a < 4 → ∀ b, b < 4 → a ≠ b → (TX5 a).2.1 ≠ (TX5 b).2.1 := by decide +kernel
theorem tyX5_ok : ∀ k, k < 4 → parseFieldDescriptor (TX5 k).2.2.1 = some (tyX5 k) := by decide +kernel
abbrev cX5_init : ByteArray := prog_7_method_1_code
def yX5_init : MethodName := ⟨RX5, "<init>", "()V"⟩
abbrev cX5_isLost : ByteArray := prog_7_method_2_code
def yX5_isLost : MethodName := ⟨RX5, "isLost", "(I)Z"⟩
abbrev cX5_found : ByteArray := prog_7_method_3_code
def yX5_found : MethodName := ⟨RX5, "found", "(I)I"⟩
abbrev cX5_renew : ByteArray := prog_7_method_4_code
def yX5_renew : MethodName := ⟨RX5, "renew", "(III)V"⟩
abbrev cX5_check : ByteArray := prog_7_method_5_code
def yX5_check : MethodName := ⟨RX5, "check", "(III)I"⟩
abbrev cX5_holds : ByteArray := prog_7_method_6_code
def yX5_holds : MethodName := ⟨RX5, "holds", "(III)Z"⟩
abbrev cX5_put : ByteArray := prog_7_method_7_code
def yX5_put : MethodName := ⟨RX5, "put", "(III)V"⟩
def RX6 : String := "StickRelay$Track"
def TX6 : u_T := fun k => match k with
  | 0 => ("StickRelay$Track", "roster", "LStickRelay$Roster;", true)
  | 1 => ("StickRelay$Track", "rules", "[I", true)
  | _ => ("StickRelay$Track", "extras", "[I", true)
def tyX6 : Nat → FieldType := fun k => match k with
  | 0 => .object "StickRelay$Roster"
  | 1 => .array .int
  | _ => .array .int
abbrev wsX60 : List Cond := u_ws RX6 TX6 3
theorem nmX6 : ∀ a, a < 3 → ∀ b, b < 3 → a ≠ b → (TX6 a).2.1 ≠ (TX6 b).2.1 := by decide +kernel
theorem tyX6_ok : ∀ k, k < 3 → parseFieldDescriptor (TX6 k).2.2.1 = some (tyX6 k) := by decide +kernel
abbrev cX6_init : ByteArray := prog_8_method_1_code
def yX6_init : MethodName := ⟨RX6, "<init>", "(LStickRelay$Roster;)V"⟩
abbrev cX6_setRule : ByteArray := prog_8_method_2_code
def yX6_setRule : MethodName := ⟨RX6, "setRule", "(II)I"⟩
abbrev cX6_pace : ByteArray := prog_8_method_3_code
def yX6_pace : MethodName := ⟨RX6, "pace", "(II)I"⟩
abbrev cX6_span : ByteArray := prog_8_method_4_code
def yX6_span : MethodName := ⟨RX6, "span", "(III)I"⟩
abbrev cX6_untilNext : ByteArray := prog_8_method_5_code
def yX6_untilNext : MethodName := ⟨RX6, "untilNext", "(IIII)I"⟩
abbrev cX6_headroom : ByteArray := prog_8_method_6_code
def yX6_headroom : MethodName := ⟨RX6, "headroom", "(IIIII)I"⟩
abbrev cX6_meeting : ByteArray := prog_8_method_7_code
def yX6_meeting : MethodName := ⟨RX6, "meeting", "(IIIII)I"⟩
abbrev cX6_farthest : ByteArray := prog_8_method_8_code
def yX6_farthest : MethodName := ⟨RX6, "farthest", "(IIII)I"⟩
abbrev cX6_leg : ByteArray := prog_8_method_9_code
def yX6_leg : MethodName := ⟨RX6, "leg", "(IIIII)I"⟩
abbrev cX6_kindOf : ByteArray := prog_8_method_10_code
def yX6_kindOf : MethodName := ⟨RX6, "kindOf", "(I)I"⟩
def RX7 : String := "StickRelay"
def TX7 : u_T := fun k => match k with
  | 0 => ("StickRelay", "roster", "LStickRelay$Roster;", true)
  | 1 => ("StickRelay", "track", "LStickRelay$Track;", true)
  | 2 => ("StickRelay", "race", "LStickRelay$Race;", true)
  | 3 => ("StickRelay", "odds", "LStickRelay$Odds;", true)
  | 4 => ("StickRelay", "orders", "LStickRelay$Orders;", true)
  | 5 => ("StickRelay", "lots", "LStickRelay$Lots;", true)
  | _ => ("StickRelay", "sheets", "LStickRelay$Sheets;", true)
def tyX7 : Nat → FieldType := fun k => match k with
  | 0 => .object "StickRelay$Roster"
  | 1 => .object "StickRelay$Track"
  | 2 => .object "StickRelay$Race"
  | 3 => .object "StickRelay$Odds"
  | 4 => .object "StickRelay$Orders"
  | 5 => .object "StickRelay$Lots"
  | _ => .object "StickRelay$Sheets"
abbrev wsX70 : List Cond := u_ws RX7 TX7 7
theorem nmX7 : ∀ a, a < 7 → ∀ b, b < 7 → a ≠ b → (TX7 a).2.1 ≠ (TX7 b).2.1 := by decide +kernel
theorem tyX7_ok : ∀ k, k < 7 → parseFieldDescriptor (TX7 k).2.2.1 = some (tyX7 k) := by decide +kernel
abbrev cX7_init : ByteArray := prog_1_method_1_code
def yX7_init : MethodName := ⟨RX7, "<init>", "()V"⟩
abbrev cX7_type : ByteArray := prog_1_method_2_code
def yX7_type : MethodName := ⟨RX7, "type", "(I)I"⟩
abbrev cX7_wipe : ByteArray := prog_1_method_3_code
def yX7_wipe : MethodName := ⟨RX7, "wipe", "()I"⟩
abbrev cX7_undo : ByteArray := prog_1_method_4_code
def yX7_undo : MethodName := ⟨RX7, "undo", "()I"⟩
abbrev cX7_fault : ByteArray := prog_1_method_5_code
def yX7_fault : MethodName := ⟨RX7, "fault", "()I"⟩
abbrev cX7_runner : ByteArray := prog_1_method_6_code
def yX7_runner : MethodName := ⟨RX7, "runner", "(II)I"⟩
abbrev cX7_runs : ByteArray := prog_1_method_7_code
def yX7_runs : MethodName := ⟨RX7, "runs", "(II)I"⟩
abbrev cX7_set : ByteArray := prog_1_method_8_code
def yX7_set : MethodName := ⟨RX7, "set", "(II)I"⟩
abbrev cX7_mark : ByteArray := prog_1_method_9_code
def yX7_mark : MethodName := ⟨RX7, "mark", "(II)I"⟩
abbrev cX7_slip : ByteArray := prog_1_method_10_code
def yX7_slip : MethodName := ⟨RX7, "slip", "(II)I"⟩
abbrev cX7_read : ByteArray := prog_1_method_11_code
def yX7_read : MethodName := ⟨RX7, "read", "(I)I"⟩
abbrev cX7_takes : ByteArray := prog_1_method_12_code
def yX7_takes : MethodName := ⟨RX7, "takes", "(III)I"⟩
abbrev cX7_when : ByteArray := prog_1_method_13_code
def yX7_when : MethodName := ⟨RX7, "when", "(II)I"⟩
abbrev cX7_meet : ByteArray := prog_1_method_14_code
def yX7_meet : MethodName := ⟨RX7, "meet", "(I)I"⟩
abbrev cX7_kind : ByteArray := prog_1_method_15_code
def yX7_kind : MethodName := ⟨RX7, "kind", "(I)I"⟩
abbrev cX7_time : ByteArray := prog_1_method_16_code
def yX7_time : MethodName := ⟨RX7, "time", "()I"⟩
abbrev cX7_carries : ByteArray := prog_1_method_17_code
def yX7_carries : MethodName := ⟨RX7, "carries", "(I)I"⟩
abbrev cX7_chance : ByteArray := prog_1_method_18_code
def yX7_chance : MethodName := ⟨RX7, "chance", "(I)I"⟩
abbrev cX7_all : ByteArray := prog_1_method_19_code
def yX7_all : MethodName := ⟨RX7, "all", "(I)J"⟩
abbrev cX7_safe : ByteArray := prog_1_method_20_code
def yX7_safe : MethodName := ⟨RX7, "safe", "(II)I"⟩
abbrev cX7_best : ByteArray := prog_1_method_21_code
def yX7_best : MethodName := ⟨RX7, "best", "(I)I"⟩
abbrev cX7_order : ByteArray := prog_1_method_22_code
def yX7_order : MethodName := ⟨RX7, "order", "(II)I"⟩
abbrev cX7_blame : ByteArray := prog_1_method_23_code
def yX7_blame : MethodName := ⟨RX7, "blame", "(II)I"⟩
abbrev cX7_lot : ByteArray := prog_1_method_24_code
def yX7_lot : MethodName := ⟨RX7, "lot", "(I)I"⟩
abbrev cX7_races : ByteArray := prog_1_method_25_code
def yX7_races : MethodName := ⟨RX7, "races", "(III)I"⟩
abbrev cX7_sheet : ByteArray := prog_1_method_26_code
def yX7_sheet : MethodName := ⟨RX7, "sheet", "(III)I"⟩
abbrev cX7_lose : ByteArray := prog_1_method_27_code
def yX7_lose : MethodName := ⟨RX7, "lose", "(I)I"⟩
abbrev cX7_lay : ByteArray := prog_1_method_28_code
def yX7_lay : MethodName := ⟨RX7, "lay", "(IIII)I"⟩
abbrev cX7_get : ByteArray := prog_1_method_29_code
def yX7_get : MethodName := ⟨RX7, "get", "(III)I"⟩
abbrev cX7_copy : ByteArray := prog_1_method_30_code
def yX7_copy : MethodName := ⟨RX7, "copy", "(IIIII)I"⟩
abbrev cX7_write : ByteArray := prog_1_method_31_code
def yX7_write : MethodName := ⟨RX7, "write", "(I)I"⟩
abbrev cX7_count : ByteArray := prog_1_method_32_code
def yX7_count : MethodName := ⟨RX7, "count", "(I)I"⟩
abbrev cX7_digest : ByteArray := prog_1_method_33_code
def yX7_digest : MethodName := ⟨RX7, "digest", "()J"⟩
abbrev cX7_outside : ByteArray := prog_1_method_34_code
def yX7_outside : MethodName := ⟨RX7, "outside", "(III)Z"⟩
abbrev cX7_isNobody : ByteArray := prog_1_method_35_code
def yX7_isNobody : MethodName := ⟨RX7, "isNobody", "(I)Z"⟩
abbrev cX7_isNoStretch : ByteArray := prog_1_method_36_code
def yX7_isNoStretch : MethodName := ⟨RX7, "isNoStretch", "(I)Z"⟩
abbrev cX7_isNoChange : ByteArray := prog_1_method_37_code
def yX7_isNoChange : MethodName := ⟨RX7, "isNoChange", "(I)Z"⟩
abbrev cX7_isNoMark : ByteArray := prog_1_method_38_code
def yX7_isNoMark : MethodName := ⟨RX7, "isNoMark", "(I)Z"⟩
abbrev cX7_isNoSheet : ByteArray := prog_1_method_39_code
def yX7_isNoSheet : MethodName := ⟨RX7, "isNoSheet", "(I)Z"⟩
abbrev cX7_isNoForm : ByteArray := prog_1_method_40_code
def yX7_isNoForm : MethodName := ⟨RX7, "isNoForm", "(I)Z"⟩
abbrev cX7_swap : ByteArray := prog_1_method_41_code
def yX7_swap : MethodName := ⟨RX7, "swap", "([III)I"⟩
def RX8 : String := "StickRelayModel"
def TX8 : u_T := fun k => match k with
  | 0 => ("StickRelayModel", "forms", "[I", true)
  | 1 => ("StickRelayModel", "sizes", "[I", true)
  | 2 => ("StickRelayModel", "items", "[I", true)
  | 3 => ("StickRelayModel", "moved", "[I", true)
  | 4 => ("StickRelayModel", "latest", "I", false)
  | 5 => ("StickRelayModel", "text", "[I", true)
  | 6 => ("StickRelayModel", "typed", "I", false)
  | 7 => ("StickRelayModel", "at", "I", false)
  | 8 => ("StickRelayModel", "runners", "I", false)
  | 9 => ("StickRelayModel", "runner", "[I", true)
  | 10 => ("StickRelayModel", "running", "[I", true)
  | 11 => ("StickRelayModel", "settings", "[I", true)
  | 12 => ("StickRelayModel", "marks", "[I", true)
  | 13 => ("StickRelayModel", "slips", "[I", true)
  | 14 => ("StickRelayModel", "bestOrder", "[I", true)
  | 15 => ("StickRelayModel", "order", "[I", true)
  | _ => ("StickRelayModel", "now", "I", false)
def tyX8 : Nat → FieldType := fun k => match k with
  | 0 => .array .int
  | 1 => .array .int
  | 2 => .array .int
  | 3 => .array .int
  | 4 => .int
  | 5 => .array .int
  | 6 => .int
  | 7 => .int
  | 8 => .int
  | 9 => .array .int
  | 10 => .array .int
  | 11 => .array .int
  | 12 => .array .int
  | 13 => .array .int
  | 14 => .array .int
  | 15 => .array .int
  | _ => .int
abbrev wsX80 : List Cond := u_ws RX8 TX8 17
theorem nmX8 : ∀ a, a < 17 → ∀ b, b < 17 → a ≠ b → (TX8 a).2.1 ≠ (TX8 b).2.1 := by decide +kernel
theorem tyX8_ok : ∀ k, k < 17 → parseFieldDescriptor (TX8 k).2.2.1 = some (tyX8 k) := by decide +kernel
abbrev cX8_init : ByteArray := prog_10_method_1_code
def yX8_init : MethodName := ⟨RX8, "<init>", "()V"⟩
abbrev cX8_in : ByteArray := prog_10_method_3_code
def yX8_in : MethodName := ⟨RX8, "in", "(JJJ)Z"⟩
abbrev cX8_no : ByteArray := prog_10_method_4_code
def yX8_no : MethodName := ⟨RX8, "no", "(I)J"⟩
abbrev cX8_isTwo : ByteArray := prog_10_method_5_code
def yX8_isTwo : MethodName := ⟨RX8, "isTwo", "(I)Z"⟩
abbrev cX8_lesser : ByteArray := prog_10_method_6_code
def yX8_lesser : MethodName := ⟨RX8, "lesser", "(II)I"⟩
abbrev cX8_met : ByteArray := prog_10_method_7_code
def yX8_met : MethodName := ⟨RX8, "met", "(I)I"⟩
abbrev cX8_isSheet : ByteArray := prog_10_method_8_code
def yX8_isSheet : MethodName := ⟨RX8, "isSheet", "(I)Z"⟩
abbrev cX8_sheet : ByteArray := prog_10_method_9_code
def yX8_sheet : MethodName := ⟨RX8, "sheet", "(III)I"⟩
abbrev cX8_lose : ByteArray := prog_10_method_10_code
def yX8_lose : MethodName := ⟨RX8, "lose", "(I)I"⟩
abbrev cX8_lacks : ByteArray := prog_10_method_11_code
def yX8_lacks : MethodName := ⟨RX8, "lacks", "(III)I"⟩
abbrev cX8_cut : ByteArray := prog_10_method_12_code
def yX8_cut : MethodName := ⟨RX8, "cut", "(II)I"⟩
abbrev cX8_lay : ByteArray := prog_10_method_13_code
def yX8_lay : MethodName := ⟨RX8, "lay", "(IIII)I"⟩
abbrev cX8_get : ByteArray := prog_10_method_14_code
def yX8_get : MethodName := ⟨RX8, "get", "(III)I"⟩
abbrev cX8_copy : ByteArray := prog_10_method_15_code
def yX8_copy : MethodName := ⟨RX8, "copy", "(IIIII)I"⟩
abbrev cX8_type : ByteArray := prog_10_method_16_code
def yX8_type : MethodName := ⟨RX8, "type", "(I)I"⟩
abbrev cX8_wipe : ByteArray := prog_10_method_17_code
def yX8_wipe : MethodName := ⟨RX8, "wipe", "()I"⟩
abbrev cX8_undo : ByteArray := prog_10_method_18_code
def yX8_undo : MethodName := ⟨RX8, "undo", "()I"⟩
abbrev cX8_here : ByteArray := prog_10_method_19_code
def yX8_here : MethodName := ⟨RX8, "here", "()I"⟩
abbrev cX8_nobody : ByteArray := prog_10_method_20_code
def yX8_nobody : MethodName := ⟨RX8, "nobody", "()I"⟩
abbrev cX8_readsPart : ByteArray := prog_10_method_21_code
def yX8_readsPart : MethodName := ⟨RX8, "readsPart", "()Z"⟩
abbrev cX8_reads : ByteArray := prog_10_method_22_code
def yX8_reads : MethodName := ⟨RX8, "reads", "()I"⟩
abbrev cX8_fault : ByteArray := prog_10_method_23_code
def yX8_fault : MethodName := ⟨RX8, "fault", "()I"⟩
abbrev cX8_runner : ByteArray := prog_10_method_24_code
def yX8_runner : MethodName := ⟨RX8, "runner", "(II)I"⟩
abbrev cX8_isStretch : ByteArray := prog_10_method_25_code
def yX8_isStretch : MethodName := ⟨RX8, "isStretch", "(I)Z"⟩
abbrev cX8_isChange : ByteArray := prog_10_method_26_code
def yX8_isChange : MethodName := ⟨RX8, "isChange", "(I)Z"⟩
abbrev cX8_runs : ByteArray := prog_10_method_27_code
def yX8_runs : MethodName := ⟨RX8, "runs", "(II)I"⟩
abbrev cX8_most : ByteArray := prog_10_method_28_code
def yX8_most : MethodName := ⟨RX8, "most", "(I)I"⟩
abbrev cX8_set : ByteArray := prog_10_method_29_code
def yX8_set : MethodName := ⟨RX8, "set", "(II)I"⟩
abbrev cX8_mark : ByteArray := prog_10_method_30_code
def yX8_mark : MethodName := ⟨RX8, "mark", "(II)I"⟩
abbrev cX8_slip : ByteArray := prog_10_method_31_code
def yX8_slip : MethodName := ⟨RX8, "slip", "(II)I"⟩
abbrev cX8_read : ByteArray := prog_10_method_32_code
def yX8_read : MethodName := ⟨RX8, "read", "(I)I"⟩
abbrev cX8_areThere : ByteArray := prog_10_method_33_code
def yX8_areThere : MethodName := ⟨RX8, "areThere", "()Z"⟩
abbrev cX8_takesOf : ByteArray := prog_10_method_34_code
def yX8_takesOf : MethodName := ⟨RX8, "takesOf", "(III)I"⟩
abbrev cX8_takes : ByteArray := prog_10_method_35_code
def yX8_takes : MethodName := ⟨RX8, "takes", "(III)I"⟩
abbrev cX8_delay : ByteArray := prog_10_method_36_code
def yX8_delay : MethodName := ⟨RX8, "delay", "(IIII)I"⟩
abbrev cX8_meetBy : ByteArray := prog_10_method_37_code
def yX8_meetBy : MethodName := ⟨RX8, "meetBy", "(IIIII)I"⟩
abbrev cX8_meetOf : ByteArray := prog_10_method_38_code
def yX8_meetOf : MethodName := ⟨RX8, "meetOf", "(III)I"⟩
abbrev cX8_goesOff : ByteArray := prog_10_method_39_code
def yX8_goesOff : MethodName := ⟨RX8, "goesOff", "(I)I"⟩
abbrev cX8_when : ByteArray := prog_10_method_40_code
def yX8_when : MethodName := ⟨RX8, "when", "(II)I"⟩
abbrev cX8_meetNow : ByteArray := prog_10_method_41_code
def yX8_meetNow : MethodName := ⟨RX8, "meetNow", "(I)I"⟩
abbrev cX8_meet : ByteArray := prog_10_method_42_code
def yX8_meet : MethodName := ⟨RX8, "meet", "(I)I"⟩
abbrev cX8_kindNow : ByteArray := prog_10_method_43_code
def yX8_kindNow : MethodName := ⟨RX8, "kindNow", "(I)I"⟩
abbrev cX8_kind : ByteArray := prog_10_method_44_code
def yX8_kind : MethodName := ⟨RX8, "kind", "(I)I"⟩
abbrev cX8_timeOf : ByteArray := prog_10_method_45_code
def yX8_timeOf : MethodName := ⟨RX8, "timeOf", "()I"⟩
abbrev cX8_time : ByteArray := prog_10_method_46_code
def yX8_time : MethodName := ⟨RX8, "time", "()I"⟩
abbrev cX8_carriesOf : ByteArray := prog_10_method_47_code
def yX8_carriesOf : MethodName := ⟨RX8, "carriesOf", "(I)I"⟩
abbrev cX8_carriesNow : ByteArray := prog_10_method_48_code
def yX8_carriesNow : MethodName := ⟨RX8, "carriesNow", "(I)I"⟩
abbrev cX8_carries : ByteArray := prog_10_method_49_code
def yX8_carries : MethodName := ⟨RX8, "carries", "(I)I"⟩
abbrev cX8_oddsOf : ByteArray := prog_10_method_50_code
def yX8_oddsOf : MethodName := ⟨RX8, "oddsOf", "(I)I"⟩
abbrev cX8_chanceBy : ByteArray := prog_10_method_51_code
def yX8_chanceBy : MethodName := ⟨RX8, "chanceBy", "(II)I"⟩
abbrev cX8_chanceNow : ByteArray := prog_10_method_52_code
def yX8_chanceNow : MethodName := ⟨RX8, "chanceNow", "(I)I"⟩
abbrev cX8_chance : ByteArray := prog_10_method_53_code
def yX8_chance : MethodName := ⟨RX8, "chance", "(I)I"⟩
abbrev cX8_part : ByteArray := prog_10_method_54_code
def yX8_part : MethodName := ⟨RX8, "part", "(JJI)J"⟩
abbrev cX8_allNow : ByteArray := prog_10_method_55_code
def yX8_allNow : MethodName := ⟨RX8, "allNow", "(I)J"⟩
abbrev cX8_all : ByteArray := prog_10_method_56_code
def yX8_all : MethodName := ⟨RX8, "all", "(I)J"⟩
abbrev cX8_safeNow : ByteArray := prog_10_method_57_code
def yX8_safeNow : MethodName := ⟨RX8, "safeNow", "(II)I"⟩
abbrev cX8_safe : ByteArray := prog_10_method_58_code
def yX8_safe : MethodName := ⟨RX8, "safe", "(II)I"⟩
abbrev cX8_lost : ByteArray := prog_10_method_59_code
def yX8_lost : MethodName := ⟨RX8, "lost", "(I)I"⟩
abbrev cX8_bestBy : ByteArray := prog_10_method_60_code
def yX8_bestBy : MethodName := ⟨RX8, "bestBy", "(IIII)I"⟩
abbrev cX8_bestNow : ByteArray := prog_10_method_61_code
def yX8_bestNow : MethodName := ⟨RX8, "bestNow", "(I)I"⟩
abbrev cX8_best : ByteArray := prog_10_method_62_code
def yX8_best : MethodName := ⟨RX8, "best", "(I)I"⟩
abbrev cX8_hands : ByteArray := prog_10_method_63_code
def yX8_hands : MethodName := ⟨RX8, "hands", "()Z"⟩
abbrev cX8_looks : ByteArray := prog_10_method_64_code
def yX8_looks : MethodName := ⟨RX8, "looks", "()V"⟩
abbrev cX8_orderOf : ByteArray := prog_10_method_65_code
def yX8_orderOf : MethodName := ⟨RX8, "orderOf", "(II)I"⟩
abbrev cX8_order : ByteArray := prog_10_method_66_code
def yX8_order : MethodName := ⟨RX8, "order", "(II)I"⟩
abbrev cX8_blameNow : ByteArray := prog_10_method_67_code
def yX8_blameNow : MethodName := ⟨RX8, "blameNow", "(II)I"⟩
abbrev cX8_blame : ByteArray := prog_10_method_68_code
def yX8_blame : MethodName := ⟨RX8, "blame", "(II)I"⟩
abbrev cX8_slipByLot : ByteArray := prog_10_method_69_code
def yX8_slipByLot : MethodName := ⟨RX8, "slipByLot", "()I"⟩
abbrev cX8_raceOn : ByteArray := prog_10_method_70_code
def yX8_raceOn : MethodName := ⟨RX8, "raceOn", "()I"⟩
abbrev cX8_lot : ByteArray := prog_10_method_71_code
def yX8_lot : MethodName := ⟨RX8, "lot", "(I)I"⟩
abbrev cX8_racesNow : ByteArray := prog_10_method_72_code
def yX8_racesNow : MethodName := ⟨RX8, "racesNow", "(III)I"⟩
abbrev cX8_races : ByteArray := prog_10_method_73_code
def yX8_races : MethodName := ⟨RX8, "races", "(III)I"⟩
abbrev cX8_write : ByteArray := prog_10_method_74_code
def yX8_write : MethodName := ⟨RX8, "write", "(I)I"⟩
abbrev cX8_unlike : ByteArray := prog_10_method_75_code
def yX8_unlike : MethodName := ⟨RX8, "unlike", "()I"⟩
abbrev cX8_count : ByteArray := prog_10_method_76_code
def yX8_count : MethodName := ⟨RX8, "count", "(I)I"⟩
abbrev cX8_digest : ByteArray := prog_10_method_77_code
def yX8_digest : MethodName := ⟨RX8, "digest", "()J"⟩
def RJ6 : String := "java/lang/Integer"
def TJ6 : u_T := fun k => match k with
  | _ => ("", "", "", false)
def tyJ6 : Nat → FieldType := fun k => match k with
  | _ => .int
abbrev wsJ60 : List Cond := u_ws RJ6 TJ6 0
theorem nmJ6 : ∀ a, a < 0 → ∀ b, b < 0 → a ≠ b → (TJ6 a).2.1 ≠ (TJ6 b).2.1 := by decide +kernel
theorem tyJ6_ok : ∀ k, k < 0 → parseFieldDescriptor (TJ6 k).2.2.1 = some (tyJ6 k) := by decide +kernel
abbrev cJ6_bitCount_0f7a4 : ByteArray := prog_11_method_49_code
def yJ6_bitCount_0f7a4 : MethodName := ⟨RJ6, "bitCount", "(I)I"⟩
def RJ9 : String := "java/lang/Math"
def TJ9 : u_T := fun k => match k with
  | _ => ("", "", "", false)
def tyJ9 : Nat → FieldType := fun k => match k with
  | _ => .int
abbrev wsJ90 : List Cond := u_ws RJ9 TJ9 0
theorem nmJ9 : ∀ a, a < 0 → ∀ b, b < 0 → a ≠ b → (TJ9 a).2.1 ≠ (TJ9 b).2.1 := by decide +kernel
theorem tyJ9_ok : ∀ k, k < 0 → parseFieldDescriptor (TJ9 k).2.2.1 = some (tyJ9 k) := by decide +kernel
abbrev cJ9_max_7cf53 : ByteArray := prog_12_method_65_code
def yJ9_max_7cf53 : MethodName := ⟨RJ9, "max", "(II)I"⟩
abbrev cJ9_min_7cf53 : ByteArray := prog_12_method_69_code
def yJ9_min_7cf53 : MethodName := ⟨RJ9, "min", "(II)I"⟩
def RJ10 : String := "java/lang/System"
def TJ10 : u_T := fun k => match k with
  | _ => ("", "", "", false)
def tyJ10 : Nat → FieldType := fun k => match k with
  | _ => .int
abbrev wsJ100 : List Cond := u_ws RJ10 TJ10 0
theorem nmJ10 : ∀ a, a < 0 → ∀ b, b < 0 → a ≠ b → (TJ10 a).2.1 ≠ (TJ10 b).2.1 := by decide +kernel
theorem tyJ10_ok : ∀ k, k < 0 → parseFieldDescriptor (TJ10 k).2.2.1 = some (tyJ10 k) := by decide +kernel
def RJ7 : String := "java/util/Arrays"
def TJ7 : u_T := fun k => match k with
  | _ => ("", "", "", false)
def tyJ7 : Nat → FieldType := fun k => match k with
  | _ => .int
abbrev wsJ70 : List Cond := u_ws RJ7 TJ7 0
theorem nmJ7 : ∀ a, a < 0 → ∀ b, b < 0 → a ≠ b → (TJ7 a).2.1 ≠ (TJ7 b).2.1 := by decide +kernel
theorem tyJ7_ok : ∀ k, k < 0 → parseFieldDescriptor (TJ7 k).2.2.1 = some (tyJ7 k) := by decide +kernel
abbrev cJ7_fill_53178 : ByteArray := prog_14_method_103_code
def yJ7_fill_53178 : MethodName := ⟨RJ7, "fill", "([II)V"⟩
def RL : String := "StickRelayLaw"
abbrev cL_law : ByteArray := code
def yL_law : MethodName := ⟨RL, "law", "([I)Z"⟩
abbrev vwCl : List vw_C := [(RX0, TX0, 2), (RX1, TX1, 3), (RX2, TX2, 5), (RX3, TX3, 5), (RX4, TX4, 8), (RX5, TX5, 4), (RX6, TX6, 3), (RX7, TX7, 7), (RX8, TX8, 17)]
end
section
theorem dX0_init_0 : decode cX0_init 0 = .ok (.aload_n 0, 1) := by decide +kernel
theorem dX0_init_1 : decode cX0_init 1 = .ok (.invokespecial 3, 3) := by decide +kernel
theorem dX0_init_4 : decode cX0_init 4 = .ok (.aload_n 0, 1) := by decide +kernel
theorem dX0_init_5 : decode cX0_init 5 = .ok (.iconst 3, 1) := by decide +kernel
theorem dX0_init_6 : decode cX0_init 6 = .ok (.newarray .int, 2) := by decide +kernel
theorem dX0_init_8 : decode cX0_init 8 = .ok (.putfield 9, 3) := by decide +kernel
theorem dX0_init_11 : decode cX0_init 11 = .ok (.aload_n 0, 1) := by decide +kernel
theorem dX0_init_12 : decode cX0_init 12 = .ok (.iconst 0, 1) := by decide +kernel
theorem dX0_init_13 : decode cX0_init 13 = .ok (.putfield 15, 3) := by decide +kernel
theorem dX0_init_16 : decode cX0_init 16 = .ok (.return_, 1) := by decide +kernel
theorem dX0_drawSlips_0 : decode cX0_drawSlips 0 = .ok (.iconst 0, 1) := by decide +kernel
theorem dX0_drawSlips_1 : decode cX0_drawSlips 1 = .ok (.istore_n 2, 1) := by decide +kernel
theorem dX0_drawSlips_2 : decode cX0_drawSlips 2 = .ok (.iload_n 2, 1) := by decide +kernel
theorem dX0_drawSlips_3 : decode cX0_drawSlips 3 = .ok (.iconst 3, 1) := by decide +kernel
theorem dX0_drawSlips_4 : decode cX0_drawSlips 4 = .ok (.if_icmp .ge 25, 3) := by decide +kernel
theorem dX0_drawSlips_7 : decode cX0_drawSlips 7 = .ok (.aload_n 0, 1) := by decide +kernel
theorem dX0_drawSlips_8 : decode cX0_drawSlips 8 = .ok (.getfield 9, 3) := by decide +kernel
theorem dX0_drawSlips_11 : decode cX0_drawSlips 11 = .ok (.iload_n 2, 1) := by decide +kernel
theorem dX0_drawSlips_12 : decode cX0_drawSlips 12 = .ok (.getstatic 19, 3) := by decide +kernel
theorem dX0_drawSlips_15 : decode cX0_drawSlips 15 = .ok (.aload_n 0, 1) := by decide +kernel
theorem dX0_drawSlips_16 : decode cX0_drawSlips 16 = .ok (.invokevirtual 22, 3) := by decide +kernel
theorem dX0_drawSlips_19 : decode cX0_drawSlips 19 = .ok (.iaload, 1) := by decide +kernel
theorem dX0_drawSlips_20 : decode cX0_drawSlips 20 = .ok (.iload_n 1, 1) := by decide +kernel
theorem dX0_drawSlips_21 : decode cX0_drawSlips 21 = .ok (.imul, 1) := by decide +kernel
theorem dX0_drawSlips_22 : decode cX0_drawSlips 22 = .ok (.iastore, 1) := by decide +kernel
theorem dX0_drawSlips_23 : decode cX0_drawSlips 23 = .ok (.iinc 2 1, 3) := by decide +kernel
theorem dX0_drawSlips_26 : decode cX0_drawSlips 26 = .ok (.goto (-24), 3) := by decide +kernel
theorem dX0_drawSlips_29 : decode cX0_drawSlips 29 = .ok (.return_, 1) := by decide +kernel
theorem dX0_lotOfSixteen_0 : decode cX0_lotOfSixteen 0 = .ok (.aload_n 0, 1) := by decide +kernel
theorem dX0_lotOfSixteen_1 : decode cX0_lotOfSixteen 1 = .ok (.ldc 26, 2) := by decide +kernel
theorem dX0_lotOfSixteen_3 : decode cX0_lotOfSixteen 3 = .ok (.aload_n 0, 1) := by decide +kernel
theorem dX0_lotOfSixteen_4 : decode cX0_lotOfSixteen 4 = .ok (.getfield 15, 3) := by decide +kernel
theorem dX0_lotOfSixteen_7 : decode cX0_lotOfSixteen 7 = .ok (.imul, 1) := by decide +kernel
theorem dX0_lotOfSixteen_8 : decode cX0_lotOfSixteen 8 = .ok (.sipush 12345, 3) := by decide +kernel
theorem dX0_lotOfSixteen_11 : decode cX0_lotOfSixteen 11 = .ok (.iadd, 1) := by decide +kernel
theorem dX0_lotOfSixteen_12 : decode cX0_lotOfSixteen 12 = .ok (.putfield 15, 3) := by decide +kernel
theorem dX0_lotOfSixteen_15 : decode cX0_lotOfSixteen 15 = .ok (.aload_n 0, 1) := by decide +kernel
theorem dX0_lotOfSixteen_16 : decode cX0_lotOfSixteen 16 = .ok (.getfield 15, 3) := by decide +kernel
theorem dX0_lotOfSixteen_19 : decode cX0_lotOfSixteen 19 = .ok (.bipush 16, 2) := by decide +kernel
theorem dX0_lotOfSixteen_21 : decode cX0_lotOfSixteen 21 = .ok (.iushr, 1) := by decide +kernel
theorem dX0_lotOfSixteen_22 : decode cX0_lotOfSixteen 22 = .ok (.bipush 16, 2) := by decide +kernel
theorem dX0_lotOfSixteen_24 : decode cX0_lotOfSixteen 24 = .ok (.irem, 1) := by decide +kernel
theorem dX0_lotOfSixteen_25 : decode cX0_lotOfSixteen 25 = .ok (.ireturn, 1) := by decide +kernel
theorem dX1_init_0 : decode cX1_init 0 = .ok (.aload_n 0, 1) := by decide +kernel
theorem dX1_init_1 : decode cX1_init 1 = .ok (.invokespecial 3, 3) := by decide +kernel
theorem dX1_init_4 : decode cX1_init 4 = .ok (.aload_n 0, 1) := by decide +kernel
theorem dX1_init_5 : decode cX1_init 5 = .ok (.iconst 5, 1) := by decide +kernel
theorem dX1_init_6 : decode cX1_init 6 = .ok (.newarray .int, 2) := by decide +kernel
theorem dX1_init_8 : decode cX1_init 8 = .ok (.putfield 11, 3) := by decide +kernel
theorem dX1_init_11 : decode cX1_init 11 = .ok (.aload_n 0, 1) := by decide +kernel
theorem dX1_init_12 : decode cX1_init 12 = .ok (.aload_n 1, 1) := by decide +kernel
theorem dX1_init_13 : decode cX1_init 13 = .ok (.putfield 15, 3) := by decide +kernel
theorem dX1_init_16 : decode cX1_init 16 = .ok (.aload_n 0, 1) := by decide +kernel
theorem dX1_init_17 : decode cX1_init 17 = .ok (.aload_n 2, 1) := by decide +kernel
theorem dX1_init_18 : decode cX1_init 18 = .ok (.putfield 19, 3) := by decide +kernel
theorem dX1_init_21 : decode cX1_init 21 = .ok (.return_, 1) := by decide +kernel
theorem dX1_sixteenths_0 : decode cX1_sixteenths 0 = .ok (.aload_n 0, 1) := by decide +kernel
theorem dX1_sixteenths_1 : decode cX1_sixteenths 1 = .ok (.iload_n 1, 1) := by decide +kernel
theorem dX1_sixteenths_2 : decode cX1_sixteenths 2 = .ok (.invokevirtual 23, 3) := by decide +kernel
theorem dX1_sixteenths_5 : decode cX1_sixteenths 5 = .ok (.aload_n 0, 1) := by decide +kernel
theorem dX1_sixteenths_6 : decode cX1_sixteenths 6 = .ok (.aload_n 0, 1) := by decide +kernel
theorem dX1_sixteenths_7 : decode cX1_sixteenths 7 = .ok (.getfield 19, 3) := by decide +kernel
theorem dX1_sixteenths_10 : decode cX1_sixteenths 10 = .ok (.getfield 27, 3) := by decide +kernel
theorem dX1_sixteenths_13 : decode cX1_sixteenths 13 = .ok (.iload_n 1, 1) := by decide +kernel
theorem dX1_sixteenths_14 : decode cX1_sixteenths 14 = .ok (.iaload, 1) := by decide +kernel
theorem dX1_sixteenths_15 : decode cX1_sixteenths 15 = .ok (.invokevirtual 32, 3) := by decide +kernel
theorem dX1_sixteenths_18 : decode cX1_sixteenths 18 = .ok (.ireturn, 1) := by decide +kernel
theorem dX1_fractionOfAll_0 : decode cX1_fractionOfAll 0 = .ok (.iconst 1, 1) := by decide +kernel
theorem dX1_fractionOfAll_1 : decode cX1_fractionOfAll 1 = .ok (.istore_n 2, 1) := by decide +kernel
theorem dX1_fractionOfAll_2 : decode cX1_fractionOfAll 2 = .ok (.iconst 1, 1) := by decide +kernel
theorem dX1_fractionOfAll_3 : decode cX1_fractionOfAll 3 = .ok (.istore_n 3, 1) := by decide +kernel
theorem dX1_fractionOfAll_4 : decode cX1_fractionOfAll 4 = .ok (.iconst 0, 1) := by decide +kernel
theorem dX1_fractionOfAll_5 : decode cX1_fractionOfAll 5 = .ok (.istore 4, 2) := by decide +kernel
theorem dX1_fractionOfAll_7 : decode cX1_fractionOfAll 7 = .ok (.iload 4, 2) := by decide +kernel
theorem dX1_fractionOfAll_9 : decode cX1_fractionOfAll 9 = .ok (.iconst 3, 1) := by decide +kernel
theorem dX1_fractionOfAll_10 : decode cX1_fractionOfAll 10 = .ok (.if_icmp .ge 37, 3) := by decide +kernel
theorem dX1_fractionOfAll_13 : decode cX1_fractionOfAll 13 = .ok (.aload_n 0, 1) := by decide +kernel
theorem dX1_fractionOfAll_14 : decode cX1_fractionOfAll 14 = .ok (.iload 4, 2) := by decide +kernel
theorem dX1_fractionOfAll_16 : decode cX1_fractionOfAll 16 = .ok (.invokevirtual 23, 3) := by decide +kernel
theorem dX1_fractionOfAll_19 : decode cX1_fractionOfAll 19 = .ok (.iload_n 2, 1) := by decide +kernel
theorem dX1_fractionOfAll_20 : decode cX1_fractionOfAll 20 = .ok (.aload_n 0, 1) := by decide +kernel
theorem dX1_fractionOfAll_21 : decode cX1_fractionOfAll 21 = .ok (.aload_n 0, 1) := by decide +kernel
theorem dX1_fractionOfAll_22 : decode cX1_fractionOfAll 22 = .ok (.getfield 19, 3) := by decide +kernel
theorem dX1_fractionOfAll_25 : decode cX1_fractionOfAll 25 = .ok (.getfield 27, 3) := by decide +kernel
theorem dX1_fractionOfAll_28 : decode cX1_fractionOfAll 28 = .ok (.iload 4, 2) := by decide +kernel
theorem dX1_fractionOfAll_30 : decode cX1_fractionOfAll 30 = .ok (.iaload, 1) := by decide +kernel
theorem dX1_fractionOfAll_31 : decode cX1_fractionOfAll 31 = .ok (.invokevirtual 32, 3) := by decide +kernel
theorem dX1_fractionOfAll_34 : decode cX1_fractionOfAll 34 = .ok (.imul, 1) := by decide +kernel
theorem dX1_fractionOfAll_35 : decode cX1_fractionOfAll 35 = .ok (.istore_n 2, 1) := by decide +kernel
theorem dX1_fractionOfAll_36 : decode cX1_fractionOfAll 36 = .ok (.iload_n 3, 1) := by decide +kernel
theorem dX1_fractionOfAll_37 : decode cX1_fractionOfAll 37 = .ok (.bipush 16, 2) := by decide +kernel
theorem dX1_fractionOfAll_39 : decode cX1_fractionOfAll 39 = .ok (.imul, 1) := by decide +kernel
theorem dX1_fractionOfAll_40 : decode cX1_fractionOfAll 40 = .ok (.istore_n 3, 1) := by decide +kernel
theorem dX1_fractionOfAll_41 : decode cX1_fractionOfAll 41 = .ok (.iinc 4 1, 3) := by decide +kernel
theorem dX1_fractionOfAll_44 : decode cX1_fractionOfAll 44 = .ok (.goto (-37), 3) := by decide +kernel
theorem dX1_fractionOfAll_47 : decode cX1_fractionOfAll 47 = .ok (.iconst 0, 1) := by decide +kernel
theorem dX1_fractionOfAll_48 : decode cX1_fractionOfAll 48 = .ok (.istore 4, 2) := by decide +kernel
theorem dX1_fractionOfAll_50 : decode cX1_fractionOfAll 50 = .ok (.iload 4, 2) := by decide +kernel
theorem dX1_fractionOfAll_52 : decode cX1_fractionOfAll 52 = .ok (.bipush 12, 2) := by decide +kernel
theorem dX1_fractionOfAll_54 : decode cX1_fractionOfAll 54 = .ok (.if_icmp .ge 23, 3) := by decide +kernel
theorem dX1_fractionOfAll_57 : decode cX1_fractionOfAll 57 = .ok (.iload_n 2, 1) := by decide +kernel
theorem dX1_fractionOfAll_58 : decode cX1_fractionOfAll 58 = .ok (.iconst 2, 1) := by decide +kernel
theorem dX1_fractionOfAll_59 : decode cX1_fractionOfAll 59 = .ok (.irem, 1) := by decide +kernel
theorem dX1_fractionOfAll_60 : decode cX1_fractionOfAll 60 = .ok (.ifCond .ne 17, 3) := by decide +kernel
theorem dX1_fractionOfAll_63 : decode cX1_fractionOfAll 63 = .ok (.iload_n 2, 1) := by decide +kernel
theorem dX1_fractionOfAll_64 : decode cX1_fractionOfAll 64 = .ok (.iconst 2, 1) := by decide +kernel
theorem dX1_fractionOfAll_65 : decode cX1_fractionOfAll 65 = .ok (.idiv, 1) := by decide +kernel
theorem dX1_fractionOfAll_66 : decode cX1_fractionOfAll 66 = .ok (.istore_n 2, 1) := by decide +kernel
theorem dX1_fractionOfAll_67 : decode cX1_fractionOfAll 67 = .ok (.iload_n 3, 1) := by decide +kernel
theorem dX1_fractionOfAll_68 : decode cX1_fractionOfAll 68 = .ok (.iconst 2, 1) := by decide +kernel
theorem dX1_fractionOfAll_69 : decode cX1_fractionOfAll 69 = .ok (.idiv, 1) := by decide +kernel
theorem dX1_fractionOfAll_70 : decode cX1_fractionOfAll 70 = .ok (.istore_n 3, 1) := by decide +kernel
theorem dX1_fractionOfAll_71 : decode cX1_fractionOfAll 71 = .ok (.iinc 4 1, 3) := by decide +kernel
theorem dX1_fractionOfAll_74 : decode cX1_fractionOfAll 74 = .ok (.goto (-24), 3) := by decide +kernel
theorem dX1_fractionOfAll_77 : decode cX1_fractionOfAll 77 = .ok (.iload_n 1, 1) := by decide +kernel
theorem dX1_fractionOfAll_78 : decode cX1_fractionOfAll 78 = .ok (.ifCond .ne 7, 3) := by decide +kernel
theorem dX1_fractionOfAll_81 : decode cX1_fractionOfAll 81 = .ok (.iload_n 2, 1) := by decide +kernel
theorem dX1_fractionOfAll_82 : decode cX1_fractionOfAll 82 = .ok (.goto 4, 3) := by decide +kernel
theorem dX1_fractionOfAll_85 : decode cX1_fractionOfAll 85 = .ok (.iload_n 3, 1) := by decide +kernel
theorem dX1_fractionOfAll_86 : decode cX1_fractionOfAll 86 = .ok (.ireturn, 1) := by decide +kernel
theorem dX1_safest_0 : decode cX1_safest 0 = .ok (.aload_n 0, 1) := by decide +kernel
theorem dX1_safest_1 : decode cX1_safest 1 = .ok (.iload_n 1, 1) := by decide +kernel
theorem dX1_safest_2 : decode cX1_safest 2 = .ok (.invokevirtual 23, 3) := by decide +kernel
theorem dX1_safest_5 : decode cX1_safest 5 = .ok (.bipush 40, 2) := by decide +kernel
theorem dX1_safest_7 : decode cX1_safest 7 = .ok (.istore_n 3, 1) := by decide +kernel
theorem dX1_safest_8 : decode cX1_safest 8 = .ok (.iload_n 3, 1) := by decide +kernel
theorem dX1_safest_9 : decode cX1_safest 9 = .ok (.ifCond .lt 20, 3) := by decide +kernel
theorem dX1_safest_12 : decode cX1_safest 12 = .ok (.aload_n 0, 1) := by decide +kernel
theorem dX1_safest_13 : decode cX1_safest 13 = .ok (.iload_n 3, 1) := by decide +kernel
theorem dX1_safest_14 : decode cX1_safest 14 = .ok (.invokevirtual 32, 3) := by decide +kernel
theorem dX1_safest_17 : decode cX1_safest 17 = .ok (.iload_n 2, 1) := by decide +kernel
theorem dX1_safest_18 : decode cX1_safest 18 = .ok (.if_icmp .lt 5, 3) := by decide +kernel
theorem dX1_safest_21 : decode cX1_safest 21 = .ok (.iload_n 3, 1) := by decide +kernel
theorem dX1_safest_22 : decode cX1_safest 22 = .ok (.ireturn, 1) := by decide +kernel
theorem dX1_safest_23 : decode cX1_safest 23 = .ok (.iinc 3 (-1), 3) := by decide +kernel
theorem dX1_safest_26 : decode cX1_safest 26 = .ok (.goto (-18), 3) := by decide +kernel
theorem dX1_safest_29 : decode cX1_safest 29 = .ok (.iconst (-1), 1) := by decide +kernel
theorem dX1_safest_30 : decode cX1_safest 30 = .ok (.ireturn, 1) := by decide +kernel
theorem dX1_guilty_0 : decode cX1_guilty 0 = .ok (.iconst 0, 1) := by decide +kernel
theorem dX1_guilty_1 : decode cX1_guilty 1 = .ok (.istore_n 3, 1) := by decide +kernel
theorem dX1_guilty_2 : decode cX1_guilty 2 = .ok (.iconst 0, 1) := by decide +kernel
theorem dX1_guilty_3 : decode cX1_guilty 3 = .ok (.istore 4, 2) := by decide +kernel
theorem dX1_guilty_5 : decode cX1_guilty 5 = .ok (.iload 4, 2) := by decide +kernel
theorem dX1_guilty_7 : decode cX1_guilty 7 = .ok (.iconst 5, 1) := by decide +kernel
theorem dX1_guilty_8 : decode cX1_guilty 8 = .ok (.if_icmp .ge 34, 3) := by decide +kernel
theorem dX1_guilty_11 : decode cX1_guilty 11 = .ok (.aload_n 0, 1) := by decide +kernel
theorem dX1_guilty_12 : decode cX1_guilty 12 = .ok (.getfield 19, 3) := by decide +kernel
theorem dX1_guilty_15 : decode cX1_guilty 15 = .ok (.iload_n 1, 1) := by decide +kernel
theorem dX1_guilty_16 : decode cX1_guilty 16 = .ok (.aload_n 0, 1) := by decide +kernel
theorem dX1_guilty_17 : decode cX1_guilty 17 = .ok (.iload 4, 2) := by decide +kernel
theorem dX1_guilty_19 : decode cX1_guilty 19 = .ok (.invokevirtual 36, 3) := by decide +kernel
theorem dX1_guilty_22 : decode cX1_guilty 22 = .ok (.invokevirtual 39, 3) := by decide +kernel
theorem dX1_guilty_25 : decode cX1_guilty 25 = .ok (.iload_n 2, 1) := by decide +kernel
theorem dX1_guilty_26 : decode cX1_guilty 26 = .ok (.if_icmp .ne 10, 3) := by decide +kernel
theorem dX1_guilty_29 : decode cX1_guilty 29 = .ok (.iload_n 3, 1) := by decide +kernel
theorem dX1_guilty_30 : decode cX1_guilty 30 = .ok (.iconst 1, 1) := by decide +kernel
theorem dX1_guilty_31 : decode cX1_guilty 31 = .ok (.iload 4, 2) := by decide +kernel
theorem dX1_guilty_33 : decode cX1_guilty 33 = .ok (.ishl, 1) := by decide +kernel
theorem dX1_guilty_34 : decode cX1_guilty 34 = .ok (.ior, 1) := by decide +kernel
theorem dX1_guilty_35 : decode cX1_guilty 35 = .ok (.istore_n 3, 1) := by decide +kernel
theorem dX1_guilty_36 : decode cX1_guilty 36 = .ok (.iinc 4 1, 3) := by decide +kernel
theorem dX1_guilty_39 : decode cX1_guilty 39 = .ok (.goto (-34), 3) := by decide +kernel
theorem dX1_guilty_42 : decode cX1_guilty 42 = .ok (.iload_n 3, 1) := by decide +kernel
theorem dX1_guilty_43 : decode cX1_guilty 43 = .ok (.ireturn, 1) := by decide +kernel
theorem dX1_slipAt_0 : decode cX1_slipAt 0 = .ok (.iload_n 1, 1) := by decide +kernel
theorem dX1_slipAt_1 : decode cX1_slipAt 1 = .ok (.iconst 2, 1) := by decide +kernel
theorem dX1_slipAt_2 : decode cX1_slipAt 2 = .ok (.isub, 1) := by decide +kernel
theorem dX1_slipAt_3 : decode cX1_slipAt 3 = .ok (.aload_n 0, 1) := by decide +kernel
theorem dX1_slipAt_4 : decode cX1_slipAt 4 = .ok (.getfield 15, 3) := by decide +kernel
theorem dX1_slipAt_7 : decode cX1_slipAt 7 = .ok (.getfield 43, 3) := by decide +kernel
theorem dX1_slipAt_10 : decode cX1_slipAt 10 = .ok (.bipush 6, 2) := by decide +kernel
theorem dX1_slipAt_12 : decode cX1_slipAt 12 = .ok (.iaload, 1) := by decide +kernel
theorem dX1_slipAt_13 : decode cX1_slipAt 13 = .ok (.imul, 1) := by decide +kernel
theorem dX1_slipAt_14 : decode cX1_slipAt 14 = .ok (.ireturn, 1) := by decide +kernel
theorem dX1_weigh_0 : decode cX1_weigh 0 = .ok (.aload_n 0, 1) := by decide +kernel
theorem dX1_weigh_1 : decode cX1_weigh 1 = .ok (.getfield 19, 3) := by decide +kernel
theorem dX1_weigh_4 : decode cX1_weigh 4 = .ok (.getfield 48, 3) := by decide +kernel
theorem dX1_weigh_7 : decode cX1_weigh 7 = .ok (.iload_n 1, 1) := by decide +kernel
theorem dX1_weigh_8 : decode cX1_weigh 8 = .ok (.iaload, 1) := by decide +kernel
theorem dX1_weigh_9 : decode cX1_weigh 9 = .ok (.istore_n 2, 1) := by decide +kernel
theorem dX1_weigh_10 : decode cX1_weigh 10 = .ok (.aload_n 0, 1) := by decide +kernel
theorem dX1_weigh_11 : decode cX1_weigh 11 = .ok (.getfield 19, 3) := by decide +kernel
theorem dX1_weigh_14 : decode cX1_weigh 14 = .ok (.getfield 48, 3) := by decide +kernel
theorem dX1_weigh_17 : decode cX1_weigh 17 = .ok (.iload_n 1, 1) := by decide +kernel
theorem dX1_weigh_18 : decode cX1_weigh 18 = .ok (.iconst 1, 1) := by decide +kernel
theorem dX1_weigh_19 : decode cX1_weigh 19 = .ok (.iadd, 1) := by decide +kernel
theorem dX1_weigh_20 : decode cX1_weigh 20 = .ok (.iaload, 1) := by decide +kernel
theorem dX1_weigh_21 : decode cX1_weigh 21 = .ok (.istore_n 3, 1) := by decide +kernel
theorem dX1_weigh_22 : decode cX1_weigh 22 = .ok (.iconst 0, 1) := by decide +kernel
theorem dX1_weigh_23 : decode cX1_weigh 23 = .ok (.istore 4, 2) := by decide +kernel
theorem dX1_weigh_25 : decode cX1_weigh 25 = .ok (.iload 4, 2) := by decide +kernel
theorem dX1_weigh_27 : decode cX1_weigh 27 = .ok (.iconst 5, 1) := by decide +kernel
theorem dX1_weigh_28 : decode cX1_weigh 28 = .ok (.if_icmp .ge 32, 3) := by decide +kernel
theorem dX1_weigh_31 : decode cX1_weigh 31 = .ok (.aload_n 0, 1) := by decide +kernel
theorem dX1_weigh_32 : decode cX1_weigh 32 = .ok (.getfield 11, 3) := by decide +kernel
theorem dX1_weigh_35 : decode cX1_weigh 35 = .ok (.iload 4, 2) := by decide +kernel
theorem dX1_weigh_37 : decode cX1_weigh 37 = .ok (.aload_n 0, 1) := by decide +kernel
theorem dX1_weigh_38 : decode cX1_weigh 38 = .ok (.getfield 15, 3) := by decide +kernel
theorem dX1_weigh_41 : decode cX1_weigh 41 = .ok (.iload_n 1, 1) := by decide +kernel
theorem dX1_weigh_42 : decode cX1_weigh 42 = .ok (.iload_n 2, 1) := by decide +kernel
theorem dX1_weigh_43 : decode cX1_weigh 43 = .ok (.iload_n 3, 1) := by decide +kernel
theorem dX1_weigh_44 : decode cX1_weigh 44 = .ok (.aload_n 0, 1) := by decide +kernel
theorem dX1_weigh_45 : decode cX1_weigh 45 = .ok (.iload 4, 2) := by decide +kernel
theorem dX1_weigh_47 : decode cX1_weigh 47 = .ok (.invokevirtual 36, 3) := by decide +kernel
theorem dX1_weigh_50 : decode cX1_weigh 50 = .ok (.invokevirtual 51, 3) := by decide +kernel
theorem dX1_weigh_53 : decode cX1_weigh 53 = .ok (.iastore, 1) := by decide +kernel
theorem dX1_weigh_54 : decode cX1_weigh 54 = .ok (.iinc 4 1, 3) := by decide +kernel
theorem dX1_weigh_57 : decode cX1_weigh 57 = .ok (.goto (-32), 3) := by decide +kernel
theorem dX1_weigh_60 : decode cX1_weigh 60 = .ok (.return_, 1) := by decide +kernel
theorem dX1_sharesAt_0 : decode cX1_sharesAt 0 = .ok (.iconst 0, 1) := by decide +kernel
theorem dX1_sharesAt_1 : decode cX1_sharesAt 1 = .ok (.istore_n 2, 1) := by decide +kernel
theorem dX1_sharesAt_2 : decode cX1_sharesAt 2 = .ok (.iconst 0, 1) := by decide +kernel
theorem dX1_sharesAt_3 : decode cX1_sharesAt 3 = .ok (.istore_n 3, 1) := by decide +kernel
theorem dX1_sharesAt_4 : decode cX1_sharesAt 4 = .ok (.iload_n 3, 1) := by decide +kernel
theorem dX1_sharesAt_5 : decode cX1_sharesAt 5 = .ok (.iconst 5, 1) := by decide +kernel
theorem dX1_sharesAt_6 : decode cX1_sharesAt 6 = .ok (.if_icmp .ge 27, 3) := by decide +kernel
theorem dX1_sharesAt_9 : decode cX1_sharesAt 9 = .ok (.aload_n 0, 1) := by decide +kernel
theorem dX1_sharesAt_10 : decode cX1_sharesAt 10 = .ok (.getfield 11, 3) := by decide +kernel
theorem dX1_sharesAt_13 : decode cX1_sharesAt 13 = .ok (.iload_n 3, 1) := by decide +kernel
theorem dX1_sharesAt_14 : decode cX1_sharesAt 14 = .ok (.iaload, 1) := by decide +kernel
theorem dX1_sharesAt_15 : decode cX1_sharesAt 15 = .ok (.iload_n 1, 1) := by decide +kernel
theorem dX1_sharesAt_16 : decode cX1_sharesAt 16 = .ok (.if_icmp .lt 11, 3) := by decide +kernel
theorem dX1_sharesAt_19 : decode cX1_sharesAt 19 = .ok (.iload_n 2, 1) := by decide +kernel
theorem dX1_sharesAt_20 : decode cX1_sharesAt 20 = .ok (.getstatic 54, 3) := by decide +kernel
theorem dX1_sharesAt_23 : decode cX1_sharesAt 23 = .ok (.iload_n 3, 1) := by decide +kernel
theorem dX1_sharesAt_24 : decode cX1_sharesAt 24 = .ok (.iaload, 1) := by decide +kernel
theorem dX1_sharesAt_25 : decode cX1_sharesAt 25 = .ok (.iadd, 1) := by decide +kernel
theorem dX1_sharesAt_26 : decode cX1_sharesAt 26 = .ok (.istore_n 2, 1) := by decide +kernel
theorem dX1_sharesAt_27 : decode cX1_sharesAt 27 = .ok (.iinc 3 1, 3) := by decide +kernel
theorem dX1_sharesAt_30 : decode cX1_sharesAt 30 = .ok (.goto (-26), 3) := by decide +kernel
theorem dX1_sharesAt_33 : decode cX1_sharesAt 33 = .ok (.iload_n 2, 1) := by decide +kernel
theorem dX1_sharesAt_34 : decode cX1_sharesAt 34 = .ok (.ireturn, 1) := by decide +kernel
theorem dX2_init_0 : decode cX2_init 0 = .ok (.aload_n 0, 1) := by decide +kernel
theorem dX2_init_1 : decode cX2_init 1 = .ok (.invokespecial 3, 3) := by decide +kernel
theorem dX2_init_4 : decode cX2_init 4 = .ok (.aload_n 0, 1) := by decide +kernel
theorem dX2_init_5 : decode cX2_init 5 = .ok (.iconst 3, 1) := by decide +kernel
theorem dX2_init_6 : decode cX2_init 6 = .ok (.bipush 25, 2) := by decide +kernel
theorem dX2_init_8 : decode cX2_init 8 = .ok (.multianewarray 9 2, 4) := by decide +kernel
theorem dX2_init_12 : decode cX2_init 12 = .ok (.putfield 11, 3) := by decide +kernel
theorem dX2_init_15 : decode cX2_init 15 = .ok (.aload_n 0, 1) := by decide +kernel
theorem dX2_init_16 : decode cX2_init 16 = .ok (.iconst 3, 1) := by decide +kernel
theorem dX2_init_17 : decode cX2_init 17 = .ok (.bipush 25, 2) := by decide +kernel
theorem dX2_init_19 : decode cX2_init 19 = .ok (.multianewarray 9 2, 4) := by decide +kernel
theorem dX2_init_23 : decode cX2_init 23 = .ok (.putfield 16, 3) := by decide +kernel
theorem dX2_init_26 : decode cX2_init 26 = .ok (.aload_n 0, 1) := by decide +kernel
theorem dX2_init_27 : decode cX2_init 27 = .ok (.bipush 8, 2) := by decide +kernel
theorem dX2_init_29 : decode cX2_init 29 = .ok (.newarray .int, 2) := by decide +kernel
theorem dX2_init_31 : decode cX2_init 31 = .ok (.putfield 19, 3) := by decide +kernel
theorem dX2_init_34 : decode cX2_init 34 = .ok (.aload_n 0, 1) := by decide +kernel
theorem dX2_init_35 : decode cX2_init 35 = .ok (.aload_n 1, 1) := by decide +kernel
theorem dX2_init_36 : decode cX2_init 36 = .ok (.putfield 23, 3) := by decide +kernel
theorem dX2_init_39 : decode cX2_init 39 = .ok (.aload_n 0, 1) := by decide +kernel
theorem dX2_init_40 : decode cX2_init 40 = .ok (.aload_n 2, 1) := by decide +kernel
theorem dX2_init_41 : decode cX2_init 41 = .ok (.putfield 27, 3) := by decide +kernel
theorem dX2_init_44 : decode cX2_init 44 = .ok (.return_, 1) := by decide +kernel
theorem dX2_search_0 : decode cX2_search 0 = .ok (.aload_n 0, 1) := by decide +kernel
theorem dX2_search_1 : decode cX2_search 1 = .ok (.getfield 19, 3) := by decide +kernel
theorem dX2_search_4 : decode cX2_search 4 = .ok (.iconst (-1), 1) := by decide +kernel
theorem dX2_search_5 : decode cX2_search 5 = .ok (.invokestatic 31, 3) := by decide +kernel
theorem dX2_search_8 : decode cX2_search 8 = .ok (.iconst 0, 1) := by decide +kernel
theorem dX2_search_9 : decode cX2_search 9 = .ok (.istore_n 2, 1) := by decide +kernel
theorem dX2_search_10 : decode cX2_search 10 = .ok (.iload_n 2, 1) := by decide +kernel
theorem dX2_search_11 : decode cX2_search 11 = .ok (.iconst 3, 1) := by decide +kernel
theorem dX2_search_12 : decode cX2_search 12 = .ok (.if_icmp .ge 14, 3) := by decide +kernel
theorem dX2_search_15 : decode cX2_search 15 = .ok (.aload_n 0, 1) := by decide +kernel
theorem dX2_search_16 : decode cX2_search 16 = .ok (.iload_n 2, 1) := by decide +kernel
theorem dX2_search_17 : decode cX2_search 17 = .ok (.invokevirtual 37, 3) := by decide +kernel
theorem dX2_search_20 : decode cX2_search 20 = .ok (.iinc 2 1, 3) := by decide +kernel
theorem dX2_search_23 : decode cX2_search 23 = .ok (.goto (-13), 3) := by decide +kernel
theorem dX2_search_26 : decode cX2_search 26 = .ok (.aload_n 0, 1) := by decide +kernel
theorem dX2_search_27 : decode cX2_search 27 = .ok (.getfield 23, 3) := by decide +kernel
theorem dX2_search_30 : decode cX2_search 30 = .ok (.getfield 41, 3) := by decide +kernel
theorem dX2_search_33 : decode cX2_search 33 = .ok (.istore_n 2, 1) := by decide +kernel
theorem dX2_search_34 : decode cX2_search 34 = .ok (.iload_n 1, 1) := by decide +kernel
theorem dX2_search_35 : decode cX2_search 35 = .ok (.iconst (-1), 1) := by decide +kernel
theorem dX2_search_36 : decode cX2_search 36 = .ok (.if_icmp .ne 7, 3) := by decide +kernel
theorem dX2_search_39 : decode cX2_search 39 = .ok (.iconst 0, 1) := by decide +kernel
theorem dX2_search_40 : decode cX2_search 40 = .ok (.goto 6, 3) := by decide +kernel
theorem dX2_search_43 : decode cX2_search 43 = .ok (.iconst 1, 1) := by decide +kernel
theorem dX2_search_44 : decode cX2_search 44 = .ok (.iload_n 1, 1) := by decide +kernel
theorem dX2_search_45 : decode cX2_search 45 = .ok (.ishl, 1) := by decide +kernel
theorem dX2_search_46 : decode cX2_search 46 = .ok (.istore_n 3, 1) := by decide +kernel
theorem dX2_search_47 : decode cX2_search 47 = .ok (.iconst 0, 1) := by decide +kernel
theorem dX2_search_48 : decode cX2_search 48 = .ok (.istore 4, 2) := by decide +kernel
theorem dX2_search_50 : decode cX2_search 50 = .ok (.iload 4, 2) := by decide +kernel
theorem dX2_search_52 : decode cX2_search 52 = .ok (.iload_n 2, 1) := by decide +kernel
theorem dX2_search_53 : decode cX2_search 53 = .ok (.if_icmp .ge 96, 3) := by decide +kernel
theorem dX2_search_56 : decode cX2_search 56 = .ok (.iconst 0, 1) := by decide +kernel
theorem dX2_search_57 : decode cX2_search 57 = .ok (.istore 5, 2) := by decide +kernel
theorem dX2_search_59 : decode cX2_search 59 = .ok (.iload 5, 2) := by decide +kernel
theorem dX2_search_61 : decode cX2_search 61 = .ok (.iload_n 2, 1) := by decide +kernel
theorem dX2_search_62 : decode cX2_search 62 = .ok (.if_icmp .ge 81, 3) := by decide +kernel
theorem dX2_search_65 : decode cX2_search 65 = .ok (.iconst 0, 1) := by decide +kernel
theorem dX2_search_66 : decode cX2_search 66 = .ok (.istore 6, 2) := by decide +kernel
theorem dX2_search_68 : decode cX2_search 68 = .ok (.iload 6, 2) := by decide +kernel
theorem dX2_search_70 : decode cX2_search 70 = .ok (.iload_n 2, 1) := by decide +kernel
theorem dX2_search_71 : decode cX2_search 71 = .ok (.if_icmp .ge 66, 3) := by decide +kernel
theorem dX2_search_74 : decode cX2_search 74 = .ok (.iconst 0, 1) := by decide +kernel
theorem dX2_search_75 : decode cX2_search 75 = .ok (.istore 7, 2) := by decide +kernel
theorem dX2_search_77 : decode cX2_search 77 = .ok (.iload 7, 2) := by decide +kernel
theorem dX2_search_79 : decode cX2_search 79 = .ok (.iload_n 2, 1) := by decide +kernel
theorem dX2_search_80 : decode cX2_search 80 = .ok (.if_icmp .ge 51, 3) := by decide +kernel
theorem dX2_search_83 : decode cX2_search 83 = .ok (.iload 4, 2) := by decide +kernel
theorem dX2_search_85 : decode cX2_search 85 = .ok (.iload 5, 2) := by decide +kernel
theorem dX2_search_87 : decode cX2_search 87 = .ok (.iload 6, 2) := by decide +kernel
theorem dX2_search_89 : decode cX2_search 89 = .ok (.iload 7, 2) := by decide +kernel
theorem dX2_search_91 : decode cX2_search 91 = .ok (.iload_n 3, 1) := by decide +kernel
theorem dX2_search_92 : decode cX2_search 92 = .ok (.invokestatic 47, 3) := by decide +kernel
theorem dX2_search_95 : decode cX2_search 95 = .ok (.ifCond .eq 30, 3) := by decide +kernel
theorem dX2_search_98 : decode cX2_search 98 = .ok (.aload_n 0, 1) := by decide +kernel
theorem dX2_search_99 : decode cX2_search 99 = .ok (.iload 4, 2) := by decide +kernel
theorem dX2_search_101 : decode cX2_search 101 = .ok (.iload 5, 2) := by decide +kernel
theorem dX2_search_103 : decode cX2_search 103 = .ok (.iload 6, 2) := by decide +kernel
theorem dX2_search_105 : decode cX2_search 105 = .ok (.iload 7, 2) := by decide +kernel
theorem dX2_search_107 : decode cX2_search 107 = .ok (.invokevirtual 51, 3) := by decide +kernel
theorem dX2_search_110 : decode cX2_search 110 = .ok (.ifCond .eq 15, 3) := by decide +kernel
theorem dX2_search_113 : decode cX2_search 113 = .ok (.aload_n 0, 1) := by decide +kernel
theorem dX2_search_114 : decode cX2_search 114 = .ok (.iload 4, 2) := by decide +kernel
theorem dX2_search_116 : decode cX2_search 116 = .ok (.iload 5, 2) := by decide +kernel
theorem dX2_search_118 : decode cX2_search 118 = .ok (.iload 6, 2) := by decide +kernel
theorem dX2_search_120 : decode cX2_search 120 = .ok (.iload 7, 2) := by decide +kernel
theorem dX2_search_122 : decode cX2_search 122 = .ok (.invokevirtual 55, 3) := by decide +kernel
theorem dX2_search_125 : decode cX2_search 125 = .ok (.iinc 7 1, 3) := by decide +kernel
theorem dX2_search_128 : decode cX2_search 128 = .ok (.goto (-51), 3) := by decide +kernel
theorem dX2_search_131 : decode cX2_search 131 = .ok (.iinc 6 1, 3) := by decide +kernel
theorem dX2_search_134 : decode cX2_search 134 = .ok (.goto (-66), 3) := by decide +kernel
theorem dX2_search_137 : decode cX2_search 137 = .ok (.iinc 5 1, 3) := by decide +kernel
theorem dX2_search_140 : decode cX2_search 140 = .ok (.goto (-81), 3) := by decide +kernel
theorem dX2_search_143 : decode cX2_search 143 = .ok (.iinc 4 1, 3) := by decide +kernel
theorem dX2_search_146 : decode cX2_search 146 = .ok (.goto (-96), 3) := by decide +kernel
theorem dX2_search_149 : decode cX2_search 149 = .ok (.return_, 1) := by decide +kernel
theorem dX2_weighPairs_0 : decode cX2_weighPairs 0 = .ok (.iconst 0, 1) := by decide +kernel
theorem dX2_weighPairs_1 : decode cX2_weighPairs 1 = .ok (.istore_n 2, 1) := by decide +kernel
theorem dX2_weighPairs_2 : decode cX2_weighPairs 2 = .ok (.iload_n 2, 1) := by decide +kernel
theorem dX2_weighPairs_3 : decode cX2_weighPairs 3 = .ok (.aload_n 0, 1) := by decide +kernel
theorem dX2_weighPairs_4 : decode cX2_weighPairs 4 = .ok (.getfield 23, 3) := by decide +kernel
theorem dX2_weighPairs_7 : decode cX2_weighPairs 7 = .ok (.getfield 41, 3) := by decide +kernel
theorem dX2_weighPairs_10 : decode cX2_weighPairs 10 = .ok (.if_icmp .ge 81, 3) := by decide +kernel
theorem dX2_weighPairs_13 : decode cX2_weighPairs 13 = .ok (.iconst 0, 1) := by decide +kernel
theorem dX2_weighPairs_14 : decode cX2_weighPairs 14 = .ok (.istore_n 3, 1) := by decide +kernel
theorem dX2_weighPairs_15 : decode cX2_weighPairs 15 = .ok (.iload_n 3, 1) := by decide +kernel
theorem dX2_weighPairs_16 : decode cX2_weighPairs 16 = .ok (.aload_n 0, 1) := by decide +kernel
theorem dX2_weighPairs_17 : decode cX2_weighPairs 17 = .ok (.getfield 23, 3) := by decide +kernel
theorem dX2_weighPairs_20 : decode cX2_weighPairs 20 = .ok (.getfield 41, 3) := by decide +kernel
theorem dX2_weighPairs_23 : decode cX2_weighPairs 23 = .ok (.if_icmp .ge 62, 3) := by decide +kernel
theorem dX2_weighPairs_26 : decode cX2_weighPairs 26 = .ok (.aload_n 0, 1) := by decide +kernel
theorem dX2_weighPairs_27 : decode cX2_weighPairs 27 = .ok (.getfield 27, 3) := by decide +kernel
theorem dX2_weighPairs_30 : decode cX2_weighPairs 30 = .ok (.iload_n 1, 1) := by decide +kernel
theorem dX2_weighPairs_31 : decode cX2_weighPairs 31 = .ok (.iload_n 2, 1) := by decide +kernel
theorem dX2_weighPairs_32 : decode cX2_weighPairs 32 = .ok (.iload_n 3, 1) := by decide +kernel
theorem dX2_weighPairs_33 : decode cX2_weighPairs 33 = .ok (.iconst 0, 1) := by decide +kernel
theorem dX2_weighPairs_34 : decode cX2_weighPairs 34 = .ok (.invokevirtual 59, 3) := by decide +kernel
theorem dX2_weighPairs_37 : decode cX2_weighPairs 37 = .ok (.istore 4, 2) := by decide +kernel
theorem dX2_weighPairs_39 : decode cX2_weighPairs 39 = .ok (.iconst 5, 1) := by decide +kernel
theorem dX2_weighPairs_40 : decode cX2_weighPairs 40 = .ok (.iload_n 2, 1) := by decide +kernel
theorem dX2_weighPairs_41 : decode cX2_weighPairs 41 = .ok (.imul, 1) := by decide +kernel
theorem dX2_weighPairs_42 : decode cX2_weighPairs 42 = .ok (.iload_n 3, 1) := by decide +kernel
theorem dX2_weighPairs_43 : decode cX2_weighPairs 43 = .ok (.iadd, 1) := by decide +kernel
theorem dX2_weighPairs_44 : decode cX2_weighPairs 44 = .ok (.istore 5, 2) := by decide +kernel
theorem dX2_weighPairs_46 : decode cX2_weighPairs 46 = .ok (.aload_n 0, 1) := by decide +kernel
theorem dX2_weighPairs_47 : decode cX2_weighPairs 47 = .ok (.getfield 11, 3) := by decide +kernel
theorem dX2_weighPairs_50 : decode cX2_weighPairs 50 = .ok (.iload_n 1, 1) := by decide +kernel
theorem dX2_weighPairs_51 : decode cX2_weighPairs 51 = .ok (.aaload, 1) := by decide +kernel
theorem dX2_weighPairs_52 : decode cX2_weighPairs 52 = .ok (.iload 5, 2) := by decide +kernel
theorem dX2_weighPairs_54 : decode cX2_weighPairs 54 = .ok (.iload 4, 2) := by decide +kernel
theorem dX2_weighPairs_56 : decode cX2_weighPairs 56 = .ok (.iastore, 1) := by decide +kernel
theorem dX2_weighPairs_57 : decode cX2_weighPairs 57 = .ok (.aload_n 0, 1) := by decide +kernel
theorem dX2_weighPairs_58 : decode cX2_weighPairs 58 = .ok (.getfield 16, 3) := by decide +kernel
theorem dX2_weighPairs_61 : decode cX2_weighPairs 61 = .ok (.iload_n 1, 1) := by decide +kernel
theorem dX2_weighPairs_62 : decode cX2_weighPairs 62 = .ok (.aaload, 1) := by decide +kernel
theorem dX2_weighPairs_63 : decode cX2_weighPairs 63 = .ok (.iload 5, 2) := by decide +kernel
theorem dX2_weighPairs_65 : decode cX2_weighPairs 65 = .ok (.aload_n 0, 1) := by decide +kernel
theorem dX2_weighPairs_66 : decode cX2_weighPairs 66 = .ok (.getfield 27, 3) := by decide +kernel
theorem dX2_weighPairs_69 : decode cX2_weighPairs 69 = .ok (.iload_n 1, 1) := by decide +kernel
theorem dX2_weighPairs_70 : decode cX2_weighPairs 70 = .ok (.iload_n 2, 1) := by decide +kernel
theorem dX2_weighPairs_71 : decode cX2_weighPairs 71 = .ok (.iload_n 3, 1) := by decide +kernel
theorem dX2_weighPairs_72 : decode cX2_weighPairs 72 = .ok (.iload 4, 2) := by decide +kernel
theorem dX2_weighPairs_74 : decode cX2_weighPairs 74 = .ok (.iconst 0, 1) := by decide +kernel
theorem dX2_weighPairs_75 : decode cX2_weighPairs 75 = .ok (.invokevirtual 65, 3) := by decide +kernel
theorem dX2_weighPairs_78 : decode cX2_weighPairs 78 = .ok (.iastore, 1) := by decide +kernel
theorem dX2_weighPairs_79 : decode cX2_weighPairs 79 = .ok (.iinc 3 1, 3) := by decide +kernel
theorem dX2_weighPairs_82 : decode cX2_weighPairs 82 = .ok (.goto (-67), 3) := by decide +kernel
theorem dX2_weighPairs_85 : decode cX2_weighPairs 85 = .ok (.iinc 2 1, 3) := by decide +kernel
theorem dX2_weighPairs_88 : decode cX2_weighPairs 88 = .ok (.goto (-86), 3) := by decide +kernel
theorem dX2_weighPairs_91 : decode cX2_weighPairs 91 = .ok (.return_, 1) := by decide +kernel
theorem dX2_areUnlike_0 : decode cX2_areUnlike 0 = .ok (.iconst 1, 1) := by decide +kernel
theorem dX2_areUnlike_1 : decode cX2_areUnlike 1 = .ok (.iload_n 0, 1) := by decide +kernel
theorem dX2_areUnlike_2 : decode cX2_areUnlike 2 = .ok (.ishl, 1) := by decide +kernel
theorem dX2_areUnlike_3 : decode cX2_areUnlike 3 = .ok (.iconst 1, 1) := by decide +kernel
theorem dX2_areUnlike_4 : decode cX2_areUnlike 4 = .ok (.iload_n 1, 1) := by decide +kernel
theorem dX2_areUnlike_5 : decode cX2_areUnlike 5 = .ok (.ishl, 1) := by decide +kernel
theorem dX2_areUnlike_6 : decode cX2_areUnlike 6 = .ok (.ior, 1) := by decide +kernel
theorem dX2_areUnlike_7 : decode cX2_areUnlike 7 = .ok (.iconst 1, 1) := by decide +kernel
theorem dX2_areUnlike_8 : decode cX2_areUnlike 8 = .ok (.iload_n 2, 1) := by decide +kernel
theorem dX2_areUnlike_9 : decode cX2_areUnlike 9 = .ok (.ishl, 1) := by decide +kernel
theorem dX2_areUnlike_10 : decode cX2_areUnlike 10 = .ok (.ior, 1) := by decide +kernel
theorem dX2_areUnlike_11 : decode cX2_areUnlike 11 = .ok (.iconst 1, 1) := by decide +kernel
theorem dX2_areUnlike_12 : decode cX2_areUnlike 12 = .ok (.iload_n 3, 1) := by decide +kernel
theorem dX2_areUnlike_13 : decode cX2_areUnlike 13 = .ok (.ishl, 1) := by decide +kernel
theorem dX2_areUnlike_14 : decode cX2_areUnlike 14 = .ok (.ior, 1) := by decide +kernel
theorem dX2_areUnlike_15 : decode cX2_areUnlike 15 = .ok (.istore 5, 2) := by decide +kernel
theorem dX2_areUnlike_17 : decode cX2_areUnlike 17 = .ok (.iload 5, 2) := by decide +kernel
theorem dX2_areUnlike_19 : decode cX2_areUnlike 19 = .ok (.invokestatic 69, 3) := by decide +kernel
theorem dX2_areUnlike_22 : decode cX2_areUnlike 22 = .ok (.iconst 4, 1) := by decide +kernel
theorem dX2_areUnlike_23 : decode cX2_areUnlike 23 = .ok (.if_icmp .ne 15, 3) := by decide +kernel
theorem dX2_areUnlike_26 : decode cX2_areUnlike 26 = .ok (.iload 5, 2) := by decide +kernel
theorem dX2_areUnlike_28 : decode cX2_areUnlike 28 = .ok (.iload 4, 2) := by decide +kernel
theorem dX2_areUnlike_30 : decode cX2_areUnlike 30 = .ok (.iand, 1) := by decide +kernel
theorem dX2_areUnlike_31 : decode cX2_areUnlike 31 = .ok (.ifCond .ne 7, 3) := by decide +kernel
theorem dX2_areUnlike_34 : decode cX2_areUnlike 34 = .ok (.iconst 1, 1) := by decide +kernel
theorem dX2_areUnlike_35 : decode cX2_areUnlike 35 = .ok (.goto 4, 3) := by decide +kernel
theorem dX2_areUnlike_38 : decode cX2_areUnlike 38 = .ok (.iconst 0, 1) := by decide +kernel
theorem dX2_areUnlike_39 : decode cX2_areUnlike 39 = .ok (.ireturn, 1) := by decide +kernel
theorem dX2_canChangeHands_0 : decode cX2_canChangeHands 0 = .ok (.aload_n 0, 1) := by decide +kernel
theorem dX2_canChangeHands_1 : decode cX2_canChangeHands 1 = .ok (.getfield 23, 3) := by decide +kernel
theorem dX2_canChangeHands_4 : decode cX2_canChangeHands 4 = .ok (.getfield 75, 3) := by decide +kernel
theorem dX2_canChangeHands_7 : decode cX2_canChangeHands 7 = .ok (.iload_n 1, 1) := by decide +kernel
theorem dX2_canChangeHands_8 : decode cX2_canChangeHands 8 = .ok (.iaload, 1) := by decide +kernel
theorem dX2_canChangeHands_9 : decode cX2_canChangeHands 9 = .ok (.aload_n 0, 1) := by decide +kernel
theorem dX2_canChangeHands_10 : decode cX2_canChangeHands 10 = .ok (.getfield 23, 3) := by decide +kernel
theorem dX2_canChangeHands_13 : decode cX2_canChangeHands 13 = .ok (.getfield 75, 3) := by decide +kernel
theorem dX2_canChangeHands_16 : decode cX2_canChangeHands 16 = .ok (.iload_n 3, 1) := by decide +kernel
theorem dX2_canChangeHands_17 : decode cX2_canChangeHands 17 = .ok (.iaload, 1) := by decide +kernel
theorem dX2_canChangeHands_18 : decode cX2_canChangeHands 18 = .ok (.iand, 1) := by decide +kernel
theorem dX2_canChangeHands_19 : decode cX2_canChangeHands 19 = .ok (.istore 5, 2) := by decide +kernel
theorem dX2_canChangeHands_21 : decode cX2_canChangeHands 21 = .ok (.aload_n 0, 1) := by decide +kernel
theorem dX2_canChangeHands_22 : decode cX2_canChangeHands 22 = .ok (.getfield 23, 3) := by decide +kernel
theorem dX2_canChangeHands_25 : decode cX2_canChangeHands 25 = .ok (.getfield 75, 3) := by decide +kernel
theorem dX2_canChangeHands_28 : decode cX2_canChangeHands 28 = .ok (.iload_n 2, 1) := by decide +kernel
theorem dX2_canChangeHands_29 : decode cX2_canChangeHands 29 = .ok (.iaload, 1) := by decide +kernel
theorem dX2_canChangeHands_30 : decode cX2_canChangeHands 30 = .ok (.aload_n 0, 1) := by decide +kernel
theorem dX2_canChangeHands_31 : decode cX2_canChangeHands 31 = .ok (.getfield 23, 3) := by decide +kernel
theorem dX2_canChangeHands_34 : decode cX2_canChangeHands 34 = .ok (.getfield 75, 3) := by decide +kernel
theorem dX2_canChangeHands_37 : decode cX2_canChangeHands 37 = .ok (.iload 4, 2) := by decide +kernel
theorem dX2_canChangeHands_39 : decode cX2_canChangeHands 39 = .ok (.iaload, 1) := by decide +kernel
theorem dX2_canChangeHands_40 : decode cX2_canChangeHands 40 = .ok (.iand, 1) := by decide +kernel
theorem dX2_canChangeHands_41 : decode cX2_canChangeHands 41 = .ok (.istore 6, 2) := by decide +kernel
theorem dX2_canChangeHands_43 : decode cX2_canChangeHands 43 = .ok (.iload 5, 2) := by decide +kernel
theorem dX2_canChangeHands_45 : decode cX2_canChangeHands 45 = .ok (.iconst 1, 1) := by decide +kernel
theorem dX2_canChangeHands_46 : decode cX2_canChangeHands 46 = .ok (.iand, 1) := by decide +kernel
theorem dX2_canChangeHands_47 : decode cX2_canChangeHands 47 = .ok (.ifCond .eq 10, 3) := by decide +kernel
theorem dX2_canChangeHands_50 : decode cX2_canChangeHands 50 = .ok (.iload 6, 2) := by decide +kernel
theorem dX2_canChangeHands_52 : decode cX2_canChangeHands 52 = .ok (.iconst 2, 1) := by decide +kernel
theorem dX2_canChangeHands_53 : decode cX2_canChangeHands 53 = .ok (.iand, 1) := by decide +kernel
theorem dX2_canChangeHands_54 : decode cX2_canChangeHands 54 = .ok (.ifCond .ne 17, 3) := by decide +kernel
theorem dX2_canChangeHands_57 : decode cX2_canChangeHands 57 = .ok (.iload 5, 2) := by decide +kernel
theorem dX2_canChangeHands_59 : decode cX2_canChangeHands 59 = .ok (.iconst 2, 1) := by decide +kernel
theorem dX2_canChangeHands_60 : decode cX2_canChangeHands 60 = .ok (.iand, 1) := by decide +kernel
theorem dX2_canChangeHands_61 : decode cX2_canChangeHands 61 = .ok (.ifCond .eq 14, 3) := by decide +kernel
theorem dX2_canChangeHands_64 : decode cX2_canChangeHands 64 = .ok (.iload 6, 2) := by decide +kernel
theorem dX2_canChangeHands_66 : decode cX2_canChangeHands 66 = .ok (.iconst 1, 1) := by decide +kernel
theorem dX2_canChangeHands_67 : decode cX2_canChangeHands 67 = .ok (.iand, 1) := by decide +kernel
theorem dX2_canChangeHands_68 : decode cX2_canChangeHands 68 = .ok (.ifCond .eq 7, 3) := by decide +kernel
theorem dX2_canChangeHands_71 : decode cX2_canChangeHands 71 = .ok (.iconst 1, 1) := by decide +kernel
theorem dX2_canChangeHands_72 : decode cX2_canChangeHands 72 = .ok (.goto 4, 3) := by decide +kernel
theorem dX2_canChangeHands_75 : decode cX2_canChangeHands 75 = .ok (.iconst 0, 1) := by decide +kernel
theorem dX2_canChangeHands_76 : decode cX2_canChangeHands 76 = .ok (.ireturn, 1) := by decide +kernel
theorem dX2_consider_0 : decode cX2_consider 0 = .ok (.iconst 5, 1) := by decide +kernel
theorem dX2_consider_1 : decode cX2_consider 1 = .ok (.iload_n 1, 1) := by decide +kernel
theorem dX2_consider_2 : decode cX2_consider 2 = .ok (.imul, 1) := by decide +kernel
theorem dX2_consider_3 : decode cX2_consider 3 = .ok (.iload_n 2, 1) := by decide +kernel
theorem dX2_consider_4 : decode cX2_consider 4 = .ok (.iadd, 1) := by decide +kernel
theorem dX2_consider_5 : decode cX2_consider 5 = .ok (.istore 5, 2) := by decide +kernel
theorem dX2_consider_7 : decode cX2_consider 7 = .ok (.iconst 5, 1) := by decide +kernel
theorem dX2_consider_8 : decode cX2_consider 8 = .ok (.iload_n 2, 1) := by decide +kernel
theorem dX2_consider_9 : decode cX2_consider 9 = .ok (.imul, 1) := by decide +kernel
theorem dX2_consider_10 : decode cX2_consider 10 = .ok (.iload_n 3, 1) := by decide +kernel
theorem dX2_consider_11 : decode cX2_consider 11 = .ok (.iadd, 1) := by decide +kernel
theorem dX2_consider_12 : decode cX2_consider 12 = .ok (.istore 6, 2) := by decide +kernel
theorem dX2_consider_14 : decode cX2_consider 14 = .ok (.iconst 5, 1) := by decide +kernel
theorem dX2_consider_15 : decode cX2_consider 15 = .ok (.iload_n 3, 1) := by decide +kernel
theorem dX2_consider_16 : decode cX2_consider 16 = .ok (.imul, 1) := by decide +kernel
theorem dX2_consider_17 : decode cX2_consider 17 = .ok (.iload 4, 2) := by decide +kernel
theorem dX2_consider_19 : decode cX2_consider 19 = .ok (.iadd, 1) := by decide +kernel
theorem dX2_consider_20 : decode cX2_consider 20 = .ok (.istore 7, 2) := by decide +kernel
theorem dX2_consider_22 : decode cX2_consider 22 = .ok (.aload_n 0, 1) := by decide +kernel
theorem dX2_consider_23 : decode cX2_consider 23 = .ok (.getfield 16, 3) := by decide +kernel
theorem dX2_consider_26 : decode cX2_consider 26 = .ok (.iconst 0, 1) := by decide +kernel
theorem dX2_consider_27 : decode cX2_consider 27 = .ok (.aaload, 1) := by decide +kernel
theorem dX2_consider_28 : decode cX2_consider 28 = .ok (.iload 5, 2) := by decide +kernel
theorem dX2_consider_30 : decode cX2_consider 30 = .ok (.iaload, 1) := by decide +kernel
theorem dX2_consider_31 : decode cX2_consider 31 = .ok (.aload_n 0, 1) := by decide +kernel
theorem dX2_consider_32 : decode cX2_consider 32 = .ok (.getfield 16, 3) := by decide +kernel
theorem dX2_consider_35 : decode cX2_consider 35 = .ok (.iconst 1, 1) := by decide +kernel
theorem dX2_consider_36 : decode cX2_consider 36 = .ok (.aaload, 1) := by decide +kernel
theorem dX2_consider_37 : decode cX2_consider 37 = .ok (.iload 6, 2) := by decide +kernel
theorem dX2_consider_39 : decode cX2_consider 39 = .ok (.iaload, 1) := by decide +kernel
theorem dX2_consider_40 : decode cX2_consider 40 = .ok (.iadd, 1) := by decide +kernel
theorem dX2_consider_41 : decode cX2_consider 41 = .ok (.aload_n 0, 1) := by decide +kernel
theorem dX2_consider_42 : decode cX2_consider 42 = .ok (.getfield 16, 3) := by decide +kernel
theorem dX2_consider_45 : decode cX2_consider 45 = .ok (.iconst 2, 1) := by decide +kernel
theorem dX2_consider_46 : decode cX2_consider 46 = .ok (.aaload, 1) := by decide +kernel
theorem dX2_consider_47 : decode cX2_consider 47 = .ok (.iload 7, 2) := by decide +kernel
theorem dX2_consider_49 : decode cX2_consider 49 = .ok (.iaload, 1) := by decide +kernel
theorem dX2_consider_50 : decode cX2_consider 50 = .ok (.iadd, 1) := by decide +kernel
theorem dX2_consider_51 : decode cX2_consider 51 = .ok (.aload_n 0, 1) := by decide +kernel
theorem dX2_consider_52 : decode cX2_consider 52 = .ok (.getfield 27, 3) := by decide +kernel
theorem dX2_consider_55 : decode cX2_consider 55 = .ok (.iload 4, 2) := by decide +kernel
theorem dX2_consider_57 : decode cX2_consider 57 = .ok (.iconst 3, 1) := by decide +kernel
theorem dX2_consider_58 : decode cX2_consider 58 = .ok (.bipush 100, 2) := by decide +kernel
theorem dX2_consider_60 : decode cX2_consider 60 = .ok (.invokevirtual 78, 3) := by decide +kernel
theorem dX2_consider_63 : decode cX2_consider 63 = .ok (.iadd, 1) := by decide +kernel
theorem dX2_consider_64 : decode cX2_consider 64 = .ok (.istore 8, 2) := by decide +kernel
theorem dX2_consider_66 : decode cX2_consider 66 = .ok (.aload_n 0, 1) := by decide +kernel
theorem dX2_consider_67 : decode cX2_consider 67 = .ok (.getfield 19, 3) := by decide +kernel
theorem dX2_consider_70 : decode cX2_consider 70 = .ok (.iconst 0, 1) := by decide +kernel
theorem dX2_consider_71 : decode cX2_consider 71 = .ok (.iaload, 1) := by decide +kernel
theorem dX2_consider_72 : decode cX2_consider 72 = .ok (.iconst (-1), 1) := by decide +kernel
theorem dX2_consider_73 : decode cX2_consider 73 = .ok (.if_icmp .eq 15, 3) := by decide +kernel
theorem dX2_consider_76 : decode cX2_consider 76 = .ok (.aload_n 0, 1) := by decide +kernel
theorem dX2_consider_77 : decode cX2_consider 77 = .ok (.getfield 19, 3) := by decide +kernel
theorem dX2_consider_80 : decode cX2_consider 80 = .ok (.iconst 0, 1) := by decide +kernel
theorem dX2_consider_81 : decode cX2_consider 81 = .ok (.iaload, 1) := by decide +kernel
theorem dX2_consider_82 : decode cX2_consider 82 = .ok (.iload 8, 2) := by decide +kernel
theorem dX2_consider_84 : decode cX2_consider 84 = .ok (.if_icmp .gt 4, 3) := by decide +kernel
theorem dX2_consider_87 : decode cX2_consider 87 = .ok (.return_, 1) := by decide +kernel
theorem dX2_consider_88 : decode cX2_consider 88 = .ok (.aload_n 0, 1) := by decide +kernel
theorem dX2_consider_89 : decode cX2_consider 89 = .ok (.getfield 19, 3) := by decide +kernel
theorem dX2_consider_92 : decode cX2_consider 92 = .ok (.iconst 0, 1) := by decide +kernel
theorem dX2_consider_93 : decode cX2_consider 93 = .ok (.iload 8, 2) := by decide +kernel
theorem dX2_consider_95 : decode cX2_consider 95 = .ok (.iastore, 1) := by decide +kernel
theorem dX2_consider_96 : decode cX2_consider 96 = .ok (.aload_n 0, 1) := by decide +kernel
theorem dX2_consider_97 : decode cX2_consider 97 = .ok (.getfield 19, 3) := by decide +kernel
theorem dX2_consider_100 : decode cX2_consider 100 = .ok (.iconst 1, 1) := by decide +kernel
theorem dX2_consider_101 : decode cX2_consider 101 = .ok (.iload_n 1, 1) := by decide +kernel
theorem dX2_consider_102 : decode cX2_consider 102 = .ok (.iastore, 1) := by decide +kernel
theorem dX2_consider_103 : decode cX2_consider 103 = .ok (.aload_n 0, 1) := by decide +kernel
theorem dX2_consider_104 : decode cX2_consider 104 = .ok (.getfield 19, 3) := by decide +kernel
theorem dX2_consider_107 : decode cX2_consider 107 = .ok (.iconst 2, 1) := by decide +kernel
theorem dX2_consider_108 : decode cX2_consider 108 = .ok (.iload_n 2, 1) := by decide +kernel
theorem dX2_consider_109 : decode cX2_consider 109 = .ok (.iastore, 1) := by decide +kernel
theorem dX2_consider_110 : decode cX2_consider 110 = .ok (.aload_n 0, 1) := by decide +kernel
theorem dX2_consider_111 : decode cX2_consider 111 = .ok (.getfield 19, 3) := by decide +kernel
theorem dX2_consider_114 : decode cX2_consider 114 = .ok (.iconst 3, 1) := by decide +kernel
theorem dX2_consider_115 : decode cX2_consider 115 = .ok (.iload_n 3, 1) := by decide +kernel
theorem dX2_consider_116 : decode cX2_consider 116 = .ok (.iastore, 1) := by decide +kernel
theorem dX2_consider_117 : decode cX2_consider 117 = .ok (.aload_n 0, 1) := by decide +kernel
theorem dX2_consider_118 : decode cX2_consider 118 = .ok (.getfield 19, 3) := by decide +kernel
theorem dX2_consider_121 : decode cX2_consider 121 = .ok (.iconst 4, 1) := by decide +kernel
theorem dX2_consider_122 : decode cX2_consider 122 = .ok (.iload 4, 2) := by decide +kernel
theorem dX2_consider_124 : decode cX2_consider 124 = .ok (.iastore, 1) := by decide +kernel
theorem dX2_consider_125 : decode cX2_consider 125 = .ok (.aload_n 0, 1) := by decide +kernel
theorem dX2_consider_126 : decode cX2_consider 126 = .ok (.getfield 19, 3) := by decide +kernel
theorem dX2_consider_129 : decode cX2_consider 129 = .ok (.iconst 5, 1) := by decide +kernel
theorem dX2_consider_130 : decode cX2_consider 130 = .ok (.aload_n 0, 1) := by decide +kernel
theorem dX2_consider_131 : decode cX2_consider 131 = .ok (.getfield 11, 3) := by decide +kernel
theorem dX2_consider_134 : decode cX2_consider 134 = .ok (.iconst 0, 1) := by decide +kernel
theorem dX2_consider_135 : decode cX2_consider 135 = .ok (.aaload, 1) := by decide +kernel
theorem dX2_consider_136 : decode cX2_consider 136 = .ok (.iload 5, 2) := by decide +kernel
theorem dX2_consider_138 : decode cX2_consider 138 = .ok (.iaload, 1) := by decide +kernel
theorem dX2_consider_139 : decode cX2_consider 139 = .ok (.iastore, 1) := by decide +kernel
theorem dX2_consider_140 : decode cX2_consider 140 = .ok (.aload_n 0, 1) := by decide +kernel
theorem dX2_consider_141 : decode cX2_consider 141 = .ok (.getfield 19, 3) := by decide +kernel
theorem dX2_consider_144 : decode cX2_consider 144 = .ok (.bipush 6, 2) := by decide +kernel
theorem dX2_consider_146 : decode cX2_consider 146 = .ok (.aload_n 0, 1) := by decide +kernel
theorem dX2_consider_147 : decode cX2_consider 147 = .ok (.getfield 11, 3) := by decide +kernel
theorem dX2_consider_150 : decode cX2_consider 150 = .ok (.iconst 1, 1) := by decide +kernel
theorem dX2_consider_151 : decode cX2_consider 151 = .ok (.aaload, 1) := by decide +kernel
theorem dX2_consider_152 : decode cX2_consider 152 = .ok (.iload 6, 2) := by decide +kernel
theorem dX2_consider_154 : decode cX2_consider 154 = .ok (.iaload, 1) := by decide +kernel
theorem dX2_consider_155 : decode cX2_consider 155 = .ok (.iastore, 1) := by decide +kernel
theorem dX2_consider_156 : decode cX2_consider 156 = .ok (.aload_n 0, 1) := by decide +kernel
theorem dX2_consider_157 : decode cX2_consider 157 = .ok (.getfield 19, 3) := by decide +kernel
theorem dX2_consider_160 : decode cX2_consider 160 = .ok (.bipush 7, 2) := by decide +kernel
theorem dX2_consider_162 : decode cX2_consider 162 = .ok (.aload_n 0, 1) := by decide +kernel
theorem dX2_consider_163 : decode cX2_consider 163 = .ok (.getfield 11, 3) := by decide +kernel
theorem dX2_consider_166 : decode cX2_consider 166 = .ok (.iconst 2, 1) := by decide +kernel
theorem dX2_consider_167 : decode cX2_consider 167 = .ok (.aaload, 1) := by decide +kernel
theorem dX2_consider_168 : decode cX2_consider 168 = .ok (.iload 7, 2) := by decide +kernel
theorem dX2_consider_170 : decode cX2_consider 170 = .ok (.iaload, 1) := by decide +kernel
theorem dX2_consider_171 : decode cX2_consider 171 = .ok (.iastore, 1) := by decide +kernel
theorem dX2_consider_172 : decode cX2_consider 172 = .ok (.return_, 1) := by decide +kernel
theorem dX3_init_0 : decode cX3_init 0 = .ok (.aload_n 0, 1) := by decide +kernel
theorem dX3_init_1 : decode cX3_init 1 = .ok (.invokespecial 3, 3) := by decide +kernel
theorem dX3_init_4 : decode cX3_init 4 = .ok (.aload_n 0, 1) := by decide +kernel
theorem dX3_init_5 : decode cX3_init 5 = .ok (.iconst 4, 1) := by decide +kernel
theorem dX3_init_6 : decode cX3_init 6 = .ok (.newarray .int, 2) := by decide +kernel
theorem dX3_init_8 : decode cX3_init 8 = .ok (.dup, 1) := by decide +kernel
theorem dX3_init_9 : decode cX3_init 9 = .ok (.iconst 0, 1) := by decide +kernel
theorem dX3_init_10 : decode cX3_init 10 = .ok (.iconst 0, 1) := by decide +kernel
theorem dX3_init_11 : decode cX3_init 11 = .ok (.iastore, 1) := by decide +kernel
theorem dX3_init_12 : decode cX3_init 12 = .ok (.dup, 1) := by decide +kernel
theorem dX3_init_13 : decode cX3_init 13 = .ok (.iconst 1, 1) := by decide +kernel
theorem dX3_init_14 : decode cX3_init 14 = .ok (.iconst 1, 1) := by decide +kernel
theorem dX3_init_15 : decode cX3_init 15 = .ok (.iastore, 1) := by decide +kernel
theorem dX3_init_16 : decode cX3_init 16 = .ok (.dup, 1) := by decide +kernel
theorem dX3_init_17 : decode cX3_init 17 = .ok (.iconst 2, 1) := by decide +kernel
theorem dX3_init_18 : decode cX3_init 18 = .ok (.iconst 2, 1) := by decide +kernel
theorem dX3_init_19 : decode cX3_init 19 = .ok (.iastore, 1) := by decide +kernel
theorem dX3_init_20 : decode cX3_init 20 = .ok (.dup, 1) := by decide +kernel
theorem dX3_init_21 : decode cX3_init 21 = .ok (.iconst 3, 1) := by decide +kernel
theorem dX3_init_22 : decode cX3_init 22 = .ok (.iconst 3, 1) := by decide +kernel
theorem dX3_init_23 : decode cX3_init 23 = .ok (.iastore, 1) := by decide +kernel
theorem dX3_init_24 : decode cX3_init 24 = .ok (.putfield 9, 3) := by decide +kernel
theorem dX3_init_27 : decode cX3_init 27 = .ok (.aload_n 0, 1) := by decide +kernel
theorem dX3_init_28 : decode cX3_init 28 = .ok (.iconst 3, 1) := by decide +kernel
theorem dX3_init_29 : decode cX3_init 29 = .ok (.newarray .int, 2) := by decide +kernel
theorem dX3_init_31 : decode cX3_init 31 = .ok (.dup, 1) := by decide +kernel
theorem dX3_init_32 : decode cX3_init 32 = .ok (.iconst 0, 1) := by decide +kernel
theorem dX3_init_33 : decode cX3_init 33 = .ok (.bipush 8, 2) := by decide +kernel
theorem dX3_init_35 : decode cX3_init 35 = .ok (.iastore, 1) := by decide +kernel
theorem dX3_init_36 : decode cX3_init 36 = .ok (.dup, 1) := by decide +kernel
theorem dX3_init_37 : decode cX3_init 37 = .ok (.iconst 1, 1) := by decide +kernel
theorem dX3_init_38 : decode cX3_init 38 = .ok (.bipush 8, 2) := by decide +kernel
theorem dX3_init_40 : decode cX3_init 40 = .ok (.iastore, 1) := by decide +kernel
theorem dX3_init_41 : decode cX3_init 41 = .ok (.dup, 1) := by decide +kernel
theorem dX3_init_42 : decode cX3_init 42 = .ok (.iconst 2, 1) := by decide +kernel
theorem dX3_init_43 : decode cX3_init 43 = .ok (.bipush 8, 2) := by decide +kernel
theorem dX3_init_45 : decode cX3_init 45 = .ok (.iastore, 1) := by decide +kernel
theorem dX3_init_46 : decode cX3_init 46 = .ok (.putfield 15, 3) := by decide +kernel
theorem dX3_init_49 : decode cX3_init 49 = .ok (.aload_n 0, 1) := by decide +kernel
theorem dX3_init_50 : decode cX3_init 50 = .ok (.iconst 3, 1) := by decide +kernel
theorem dX3_init_51 : decode cX3_init 51 = .ok (.newarray .int, 2) := by decide +kernel
theorem dX3_init_53 : decode cX3_init 53 = .ok (.dup, 1) := by decide +kernel
theorem dX3_init_54 : decode cX3_init 54 = .ok (.iconst 0, 1) := by decide +kernel
theorem dX3_init_55 : decode cX3_init 55 = .ok (.iconst 0, 1) := by decide +kernel
theorem dX3_init_56 : decode cX3_init 56 = .ok (.iastore, 1) := by decide +kernel
theorem dX3_init_57 : decode cX3_init 57 = .ok (.dup, 1) := by decide +kernel
theorem dX3_init_58 : decode cX3_init 58 = .ok (.iconst 1, 1) := by decide +kernel
theorem dX3_init_59 : decode cX3_init 59 = .ok (.iconst 0, 1) := by decide +kernel
theorem dX3_init_60 : decode cX3_init 60 = .ok (.iastore, 1) := by decide +kernel
theorem dX3_init_61 : decode cX3_init 61 = .ok (.dup, 1) := by decide +kernel
theorem dX3_init_62 : decode cX3_init 62 = .ok (.iconst 2, 1) := by decide +kernel
theorem dX3_init_63 : decode cX3_init 63 = .ok (.iconst 0, 1) := by decide +kernel
theorem dX3_init_64 : decode cX3_init 64 = .ok (.iastore, 1) := by decide +kernel
theorem dX3_init_65 : decode cX3_init 65 = .ok (.putfield 18, 3) := by decide +kernel
theorem dX3_init_68 : decode cX3_init 68 = .ok (.aload_n 0, 1) := by decide +kernel
theorem dX3_init_69 : decode cX3_init 69 = .ok (.aload_n 1, 1) := by decide +kernel
theorem dX3_init_70 : decode cX3_init 70 = .ok (.putfield 21, 3) := by decide +kernel
theorem dX3_init_73 : decode cX3_init 73 = .ok (.aload_n 0, 1) := by decide +kernel
theorem dX3_init_74 : decode cX3_init 74 = .ok (.aload_n 2, 1) := by decide +kernel
theorem dX3_init_75 : decode cX3_init 75 = .ok (.putfield 25, 3) := by decide +kernel
theorem dX3_init_78 : decode cX3_init 78 = .ok (.return_, 1) := by decide +kernel
theorem dX3_lacksSomebody_0 : decode cX3_lacksSomebody 0 = .ok (.aload_n 0, 1) := by decide +kernel
theorem dX3_lacksSomebody_1 : decode cX3_lacksSomebody 1 = .ok (.getfield 9, 3) := by decide +kernel
theorem dX3_lacksSomebody_4 : decode cX3_lacksSomebody 4 = .ok (.astore_n 1, 1) := by decide +kernel
theorem dX3_lacksSomebody_5 : decode cX3_lacksSomebody 5 = .ok (.aload_n 1, 1) := by decide +kernel
theorem dX3_lacksSomebody_6 : decode cX3_lacksSomebody 6 = .ok (.arraylength, 1) := by decide +kernel
theorem dX3_lacksSomebody_7 : decode cX3_lacksSomebody 7 = .ok (.istore_n 2, 1) := by decide +kernel
theorem dX3_lacksSomebody_8 : decode cX3_lacksSomebody 8 = .ok (.iconst 0, 1) := by decide +kernel
theorem dX3_lacksSomebody_9 : decode cX3_lacksSomebody 9 = .ok (.istore_n 3, 1) := by decide +kernel
theorem dX3_lacksSomebody_10 : decode cX3_lacksSomebody 10 = .ok (.iload_n 3, 1) := by decide +kernel
theorem dX3_lacksSomebody_11 : decode cX3_lacksSomebody 11 = .ok (.iload_n 2, 1) := by decide +kernel
theorem dX3_lacksSomebody_12 : decode cX3_lacksSomebody 12 = .ok (.if_icmp .ge 28, 3) := by decide +kernel
theorem dX3_lacksSomebody_15 : decode cX3_lacksSomebody 15 = .ok (.aload_n 1, 1) := by decide +kernel
theorem dX3_lacksSomebody_16 : decode cX3_lacksSomebody 16 = .ok (.iload_n 3, 1) := by decide +kernel
theorem dX3_lacksSomebody_17 : decode cX3_lacksSomebody 17 = .ok (.iaload, 1) := by decide +kernel
theorem dX3_lacksSomebody_18 : decode cX3_lacksSomebody 18 = .ok (.istore 4, 2) := by decide +kernel
theorem dX3_lacksSomebody_20 : decode cX3_lacksSomebody 20 = .ok (.iload 4, 2) := by decide +kernel
theorem dX3_lacksSomebody_22 : decode cX3_lacksSomebody 22 = .ok (.aload_n 0, 1) := by decide +kernel
theorem dX3_lacksSomebody_23 : decode cX3_lacksSomebody 23 = .ok (.getfield 21, 3) := by decide +kernel
theorem dX3_lacksSomebody_26 : decode cX3_lacksSomebody 26 = .ok (.getfield 29, 3) := by decide +kernel
theorem dX3_lacksSomebody_29 : decode cX3_lacksSomebody 29 = .ok (.if_icmp .lt 5, 3) := by decide +kernel
theorem dX3_lacksSomebody_32 : decode cX3_lacksSomebody 32 = .ok (.iconst 1, 1) := by decide +kernel
theorem dX3_lacksSomebody_33 : decode cX3_lacksSomebody 33 = .ok (.ireturn, 1) := by decide +kernel
theorem dX3_lacksSomebody_34 : decode cX3_lacksSomebody 34 = .ok (.iinc 3 1, 3) := by decide +kernel
theorem dX3_lacksSomebody_37 : decode cX3_lacksSomebody 37 = .ok (.goto (-27), 3) := by decide +kernel
theorem dX3_lacksSomebody_40 : decode cX3_lacksSomebody 40 = .ok (.iconst 0, 1) := by decide +kernel
theorem dX3_lacksSomebody_41 : decode cX3_lacksSomebody 41 = .ok (.ireturn, 1) := by decide +kernel
theorem dX3_unlikeOnes_0 : decode cX3_unlikeOnes 0 = .ok (.iconst 0, 1) := by decide +kernel
theorem dX3_unlikeOnes_1 : decode cX3_unlikeOnes 1 = .ok (.istore_n 1, 1) := by decide +kernel
theorem dX3_unlikeOnes_2 : decode cX3_unlikeOnes 2 = .ok (.aload_n 0, 1) := by decide +kernel
theorem dX3_unlikeOnes_3 : decode cX3_unlikeOnes 3 = .ok (.getfield 9, 3) := by decide +kernel
theorem dX3_unlikeOnes_6 : decode cX3_unlikeOnes 6 = .ok (.astore_n 2, 1) := by decide +kernel
theorem dX3_unlikeOnes_7 : decode cX3_unlikeOnes 7 = .ok (.aload_n 2, 1) := by decide +kernel
theorem dX3_unlikeOnes_8 : decode cX3_unlikeOnes 8 = .ok (.arraylength, 1) := by decide +kernel
theorem dX3_unlikeOnes_9 : decode cX3_unlikeOnes 9 = .ok (.istore_n 3, 1) := by decide +kernel
theorem dX3_unlikeOnes_10 : decode cX3_unlikeOnes 10 = .ok (.iconst 0, 1) := by decide +kernel
theorem dX3_unlikeOnes_11 : decode cX3_unlikeOnes 11 = .ok (.istore 4, 2) := by decide +kernel
theorem dX3_unlikeOnes_13 : decode cX3_unlikeOnes 13 = .ok (.iload 4, 2) := by decide +kernel
theorem dX3_unlikeOnes_15 : decode cX3_unlikeOnes 15 = .ok (.iload_n 3, 1) := by decide +kernel
theorem dX3_unlikeOnes_16 : decode cX3_unlikeOnes 16 = .ok (.if_icmp .ge 22, 3) := by decide +kernel
theorem dX3_unlikeOnes_19 : decode cX3_unlikeOnes 19 = .ok (.aload_n 2, 1) := by decide +kernel
theorem dX3_unlikeOnes_20 : decode cX3_unlikeOnes 20 = .ok (.iload 4, 2) := by decide +kernel
theorem dX3_unlikeOnes_22 : decode cX3_unlikeOnes 22 = .ok (.iaload, 1) := by decide +kernel
theorem dX3_unlikeOnes_23 : decode cX3_unlikeOnes 23 = .ok (.istore 5, 2) := by decide +kernel
theorem dX3_unlikeOnes_25 : decode cX3_unlikeOnes 25 = .ok (.iload_n 1, 1) := by decide +kernel
theorem dX3_unlikeOnes_26 : decode cX3_unlikeOnes 26 = .ok (.iconst 1, 1) := by decide +kernel
theorem dX3_unlikeOnes_27 : decode cX3_unlikeOnes 27 = .ok (.iload 5, 2) := by decide +kernel
theorem dX3_unlikeOnes_29 : decode cX3_unlikeOnes 29 = .ok (.ishl, 1) := by decide +kernel
theorem dX3_unlikeOnes_30 : decode cX3_unlikeOnes 30 = .ok (.ior, 1) := by decide +kernel
theorem dX3_unlikeOnes_31 : decode cX3_unlikeOnes 31 = .ok (.istore_n 1, 1) := by decide +kernel
theorem dX3_unlikeOnes_32 : decode cX3_unlikeOnes 32 = .ok (.iinc 4 1, 3) := by decide +kernel
theorem dX3_unlikeOnes_35 : decode cX3_unlikeOnes 35 = .ok (.goto (-22), 3) := by decide +kernel
theorem dX3_unlikeOnes_38 : decode cX3_unlikeOnes 38 = .ok (.iload_n 1, 1) := by decide +kernel
theorem dX3_unlikeOnes_39 : decode cX3_unlikeOnes 39 = .ok (.invokestatic 35, 3) := by decide +kernel
theorem dX3_unlikeOnes_42 : decode cX3_unlikeOnes 42 = .ok (.ireturn, 1) := by decide +kernel
theorem dX3_offAt_0 : decode cX3_offAt 0 = .ok (.iconst 0, 1) := by decide +kernel
theorem dX3_offAt_1 : decode cX3_offAt 1 = .ok (.istore_n 2, 1) := by decide +kernel
theorem dX3_offAt_2 : decode cX3_offAt 2 = .ok (.iconst 0, 1) := by decide +kernel
theorem dX3_offAt_3 : decode cX3_offAt 3 = .ok (.istore_n 3, 1) := by decide +kernel
theorem dX3_offAt_4 : decode cX3_offAt 4 = .ok (.iload_n 3, 1) := by decide +kernel
theorem dX3_offAt_5 : decode cX3_offAt 5 = .ok (.iload_n 1, 1) := by decide +kernel
theorem dX3_offAt_6 : decode cX3_offAt 6 = .ok (.if_icmp .ge 38, 3) := by decide +kernel
theorem dX3_offAt_9 : decode cX3_offAt 9 = .ok (.iload_n 2, 1) := by decide +kernel
theorem dX3_offAt_10 : decode cX3_offAt 10 = .ok (.aload_n 0, 1) := by decide +kernel
theorem dX3_offAt_11 : decode cX3_offAt 11 = .ok (.getfield 25, 3) := by decide +kernel
theorem dX3_offAt_14 : decode cX3_offAt 14 = .ok (.iload_n 3, 1) := by decide +kernel
theorem dX3_offAt_15 : decode cX3_offAt 15 = .ok (.aload_n 0, 1) := by decide +kernel
theorem dX3_offAt_16 : decode cX3_offAt 16 = .ok (.getfield 9, 3) := by decide +kernel
theorem dX3_offAt_19 : decode cX3_offAt 19 = .ok (.iload_n 3, 1) := by decide +kernel
theorem dX3_offAt_20 : decode cX3_offAt 20 = .ok (.iaload, 1) := by decide +kernel
theorem dX3_offAt_21 : decode cX3_offAt 21 = .ok (.aload_n 0, 1) := by decide +kernel
theorem dX3_offAt_22 : decode cX3_offAt 22 = .ok (.getfield 15, 3) := by decide +kernel
theorem dX3_offAt_25 : decode cX3_offAt 25 = .ok (.iload_n 3, 1) := by decide +kernel
theorem dX3_offAt_26 : decode cX3_offAt 26 = .ok (.iaload, 1) := by decide +kernel
theorem dX3_offAt_27 : decode cX3_offAt 27 = .ok (.aload_n 0, 1) := by decide +kernel
theorem dX3_offAt_28 : decode cX3_offAt 28 = .ok (.getfield 18, 3) := by decide +kernel
theorem dX3_offAt_31 : decode cX3_offAt 31 = .ok (.iload_n 3, 1) := by decide +kernel
theorem dX3_offAt_32 : decode cX3_offAt 32 = .ok (.iaload, 1) := by decide +kernel
theorem dX3_offAt_33 : decode cX3_offAt 33 = .ok (.invokevirtual 41, 3) := by decide +kernel
theorem dX3_offAt_36 : decode cX3_offAt 36 = .ok (.iadd, 1) := by decide +kernel
theorem dX3_offAt_37 : decode cX3_offAt 37 = .ok (.istore_n 2, 1) := by decide +kernel
theorem dX3_offAt_38 : decode cX3_offAt 38 = .ok (.iinc 3 1, 3) := by decide +kernel
theorem dX3_offAt_41 : decode cX3_offAt 41 = .ok (.goto (-37), 3) := by decide +kernel
theorem dX3_offAt_44 : decode cX3_offAt 44 = .ok (.iload_n 2, 1) := by decide +kernel
theorem dX3_offAt_45 : decode cX3_offAt 45 = .ok (.ireturn, 1) := by decide +kernel
theorem dX3_meeting_0 : decode cX3_meeting 0 = .ok (.aload_n 0, 1) := by decide +kernel
theorem dX3_meeting_1 : decode cX3_meeting 1 = .ok (.getfield 25, 3) := by decide +kernel
theorem dX3_meeting_4 : decode cX3_meeting 4 = .ok (.iload_n 1, 1) := by decide +kernel
theorem dX3_meeting_5 : decode cX3_meeting 5 = .ok (.aload_n 0, 1) := by decide +kernel
theorem dX3_meeting_6 : decode cX3_meeting 6 = .ok (.getfield 9, 3) := by decide +kernel
theorem dX3_meeting_9 : decode cX3_meeting 9 = .ok (.iload_n 1, 1) := by decide +kernel
theorem dX3_meeting_10 : decode cX3_meeting 10 = .ok (.iaload, 1) := by decide +kernel
theorem dX3_meeting_11 : decode cX3_meeting 11 = .ok (.aload_n 0, 1) := by decide +kernel
theorem dX3_meeting_12 : decode cX3_meeting 12 = .ok (.getfield 9, 3) := by decide +kernel
theorem dX3_meeting_15 : decode cX3_meeting 15 = .ok (.iload_n 1, 1) := by decide +kernel
theorem dX3_meeting_16 : decode cX3_meeting 16 = .ok (.iconst 1, 1) := by decide +kernel
theorem dX3_meeting_17 : decode cX3_meeting 17 = .ok (.iadd, 1) := by decide +kernel
theorem dX3_meeting_18 : decode cX3_meeting 18 = .ok (.iaload, 1) := by decide +kernel
theorem dX3_meeting_19 : decode cX3_meeting 19 = .ok (.aload_n 0, 1) := by decide +kernel
theorem dX3_meeting_20 : decode cX3_meeting 20 = .ok (.getfield 15, 3) := by decide +kernel
theorem dX3_meeting_23 : decode cX3_meeting 23 = .ok (.iload_n 1, 1) := by decide +kernel
theorem dX3_meeting_24 : decode cX3_meeting 24 = .ok (.iaload, 1) := by decide +kernel
theorem dX3_meeting_25 : decode cX3_meeting 25 = .ok (.iload_n 2, 1) := by decide +kernel
theorem dX3_meeting_26 : decode cX3_meeting 26 = .ok (.invokevirtual 47, 3) := by decide +kernel
theorem dX3_meeting_29 : decode cX3_meeting 29 = .ok (.ireturn, 1) := by decide +kernel
theorem dX3_bestMark_0 : decode cX3_bestMark 0 = .ok (.aload_n 0, 1) := by decide +kernel
theorem dX3_bestMark_1 : decode cX3_bestMark 1 = .ok (.getfield 25, 3) := by decide +kernel
theorem dX3_bestMark_4 : decode cX3_bestMark 4 = .ok (.iload_n 1, 1) := by decide +kernel
theorem dX3_bestMark_5 : decode cX3_bestMark 5 = .ok (.aload_n 0, 1) := by decide +kernel
theorem dX3_bestMark_6 : decode cX3_bestMark 6 = .ok (.getfield 9, 3) := by decide +kernel
theorem dX3_bestMark_9 : decode cX3_bestMark 9 = .ok (.iload_n 1, 1) := by decide +kernel
theorem dX3_bestMark_10 : decode cX3_bestMark 10 = .ok (.iaload, 1) := by decide +kernel
theorem dX3_bestMark_11 : decode cX3_bestMark 11 = .ok (.aload_n 0, 1) := by decide +kernel
theorem dX3_bestMark_12 : decode cX3_bestMark 12 = .ok (.getfield 9, 3) := by decide +kernel
theorem dX3_bestMark_15 : decode cX3_bestMark 15 = .ok (.iload_n 1, 1) := by decide +kernel
theorem dX3_bestMark_16 : decode cX3_bestMark 16 = .ok (.iconst 1, 1) := by decide +kernel
theorem dX3_bestMark_17 : decode cX3_bestMark 17 = .ok (.iadd, 1) := by decide +kernel
theorem dX3_bestMark_18 : decode cX3_bestMark 18 = .ok (.iaload, 1) := by decide +kernel
theorem dX3_bestMark_19 : decode cX3_bestMark 19 = .ok (.aload_n 0, 1) := by decide +kernel
theorem dX3_bestMark_20 : decode cX3_bestMark 20 = .ok (.getfield 18, 3) := by decide +kernel
theorem dX3_bestMark_23 : decode cX3_bestMark 23 = .ok (.iload_n 1, 1) := by decide +kernel
theorem dX3_bestMark_24 : decode cX3_bestMark 24 = .ok (.iaload, 1) := by decide +kernel
theorem dX3_bestMark_25 : decode cX3_bestMark 25 = .ok (.invokevirtual 51, 3) := by decide +kernel
theorem dX3_bestMark_28 : decode cX3_bestMark 28 = .ok (.ireturn, 1) := by decide +kernel
theorem dX3_timeBy_0 : decode cX3_timeBy 0 = .ok (.iconst 0, 1) := by decide +kernel
theorem dX3_timeBy_1 : decode cX3_timeBy 1 = .ok (.istore_n 2, 1) := by decide +kernel
theorem dX3_timeBy_2 : decode cX3_timeBy 2 = .ok (.iconst 0, 1) := by decide +kernel
theorem dX3_timeBy_3 : decode cX3_timeBy 3 = .ok (.istore_n 3, 1) := by decide +kernel
theorem dX3_timeBy_4 : decode cX3_timeBy 4 = .ok (.iload_n 3, 1) := by decide +kernel
theorem dX3_timeBy_5 : decode cX3_timeBy 5 = .ok (.iconst 3, 1) := by decide +kernel
theorem dX3_timeBy_6 : decode cX3_timeBy 6 = .ok (.if_icmp .ge 55, 3) := by decide +kernel
theorem dX3_timeBy_9 : decode cX3_timeBy 9 = .ok (.aload_n 0, 1) := by decide +kernel
theorem dX3_timeBy_10 : decode cX3_timeBy 10 = .ok (.getfield 25, 3) := by decide +kernel
theorem dX3_timeBy_13 : decode cX3_timeBy 13 = .ok (.iload_n 3, 1) := by decide +kernel
theorem dX3_timeBy_14 : decode cX3_timeBy 14 = .ok (.aload_n 0, 1) := by decide +kernel
theorem dX3_timeBy_15 : decode cX3_timeBy 15 = .ok (.getfield 9, 3) := by decide +kernel
theorem dX3_timeBy_18 : decode cX3_timeBy 18 = .ok (.iload_n 3, 1) := by decide +kernel
theorem dX3_timeBy_19 : decode cX3_timeBy 19 = .ok (.iaload, 1) := by decide +kernel
theorem dX3_timeBy_20 : decode cX3_timeBy 20 = .ok (.aload_n 0, 1) := by decide +kernel
theorem dX3_timeBy_21 : decode cX3_timeBy 21 = .ok (.getfield 9, 3) := by decide +kernel
theorem dX3_timeBy_24 : decode cX3_timeBy 24 = .ok (.iload_n 3, 1) := by decide +kernel
theorem dX3_timeBy_25 : decode cX3_timeBy 25 = .ok (.iconst 1, 1) := by decide +kernel
theorem dX3_timeBy_26 : decode cX3_timeBy 26 = .ok (.iadd, 1) := by decide +kernel
theorem dX3_timeBy_27 : decode cX3_timeBy 27 = .ok (.iaload, 1) := by decide +kernel
theorem dX3_timeBy_28 : decode cX3_timeBy 28 = .ok (.aload_n 0, 1) := by decide +kernel
theorem dX3_timeBy_29 : decode cX3_timeBy 29 = .ok (.getfield 15, 3) := by decide +kernel
theorem dX3_timeBy_32 : decode cX3_timeBy 32 = .ok (.iload_n 3, 1) := by decide +kernel
theorem dX3_timeBy_33 : decode cX3_timeBy 33 = .ok (.iaload, 1) := by decide +kernel
theorem dX3_timeBy_34 : decode cX3_timeBy 34 = .ok (.aload_n 1, 1) := by decide +kernel
theorem dX3_timeBy_35 : decode cX3_timeBy 35 = .ok (.iload_n 3, 1) := by decide +kernel
theorem dX3_timeBy_36 : decode cX3_timeBy 36 = .ok (.iaload, 1) := by decide +kernel
theorem dX3_timeBy_37 : decode cX3_timeBy 37 = .ok (.invokevirtual 54, 3) := by decide +kernel
theorem dX3_timeBy_40 : decode cX3_timeBy 40 = .ok (.istore 4, 2) := by decide +kernel
theorem dX3_timeBy_42 : decode cX3_timeBy 42 = .ok (.iload 4, 2) := by decide +kernel
theorem dX3_timeBy_44 : decode cX3_timeBy 44 = .ok (.iconst (-1), 1) := by decide +kernel
theorem dX3_timeBy_45 : decode cX3_timeBy 45 = .ok (.if_icmp .ne 5, 3) := by decide +kernel
theorem dX3_timeBy_48 : decode cX3_timeBy 48 = .ok (.iconst (-1), 1) := by decide +kernel
theorem dX3_timeBy_49 : decode cX3_timeBy 49 = .ok (.ireturn, 1) := by decide +kernel
theorem dX3_timeBy_50 : decode cX3_timeBy 50 = .ok (.iload_n 2, 1) := by decide +kernel
theorem dX3_timeBy_51 : decode cX3_timeBy 51 = .ok (.iload 4, 2) := by decide +kernel
theorem dX3_timeBy_53 : decode cX3_timeBy 53 = .ok (.iadd, 1) := by decide +kernel
theorem dX3_timeBy_54 : decode cX3_timeBy 54 = .ok (.istore_n 2, 1) := by decide +kernel
theorem dX3_timeBy_55 : decode cX3_timeBy 55 = .ok (.iinc 3 1, 3) := by decide +kernel
theorem dX3_timeBy_58 : decode cX3_timeBy 58 = .ok (.goto (-54), 3) := by decide +kernel
theorem dX3_timeBy_61 : decode cX3_timeBy 61 = .ok (.iload_n 2, 1) := by decide +kernel
theorem dX3_timeBy_62 : decode cX3_timeBy 62 = .ok (.aload_n 0, 1) := by decide +kernel
theorem dX3_timeBy_63 : decode cX3_timeBy 63 = .ok (.getfield 25, 3) := by decide +kernel
theorem dX3_timeBy_66 : decode cX3_timeBy 66 = .ok (.aload_n 0, 1) := by decide +kernel
theorem dX3_timeBy_67 : decode cX3_timeBy 67 = .ok (.getfield 9, 3) := by decide +kernel
theorem dX3_timeBy_70 : decode cX3_timeBy 70 = .ok (.iconst 3, 1) := by decide +kernel
theorem dX3_timeBy_71 : decode cX3_timeBy 71 = .ok (.iaload, 1) := by decide +kernel
theorem dX3_timeBy_72 : decode cX3_timeBy 72 = .ok (.iconst 3, 1) := by decide +kernel
theorem dX3_timeBy_73 : decode cX3_timeBy 73 = .ok (.bipush 100, 2) := by decide +kernel
theorem dX3_timeBy_75 : decode cX3_timeBy 75 = .ok (.invokevirtual 57, 3) := by decide +kernel
theorem dX3_timeBy_78 : decode cX3_timeBy 78 = .ok (.iadd, 1) := by decide +kernel
theorem dX3_timeBy_79 : decode cX3_timeBy 79 = .ok (.ireturn, 1) := by decide +kernel
theorem dX3_carried_0 : decode cX3_carried 0 = .ok (.iload_n 1, 1) := by decide +kernel
theorem dX3_carried_1 : decode cX3_carried 1 = .ok (.ifCond .ne 7, 3) := by decide +kernel
theorem dX3_carried_4 : decode cX3_carried 4 = .ok (.iconst 0, 1) := by decide +kernel
theorem dX3_carried_5 : decode cX3_carried 5 = .ok (.goto 18, 3) := by decide +kernel
theorem dX3_carried_8 : decode cX3_carried 8 = .ok (.aload_n 0, 1) := by decide +kernel
theorem dX3_carried_9 : decode cX3_carried 9 = .ok (.iload_n 1, 1) := by decide +kernel
theorem dX3_carried_10 : decode cX3_carried 10 = .ok (.iconst 1, 1) := by decide +kernel
theorem dX3_carried_11 : decode cX3_carried 11 = .ok (.isub, 1) := by decide +kernel
theorem dX3_carried_12 : decode cX3_carried 12 = .ok (.aload_n 0, 1) := by decide +kernel
theorem dX3_carried_13 : decode cX3_carried 13 = .ok (.getfield 18, 3) := by decide +kernel
theorem dX3_carried_16 : decode cX3_carried 16 = .ok (.iload_n 1, 1) := by decide +kernel
theorem dX3_carried_17 : decode cX3_carried 17 = .ok (.iconst 1, 1) := by decide +kernel
theorem dX3_carried_18 : decode cX3_carried 18 = .ok (.isub, 1) := by decide +kernel
theorem dX3_carried_19 : decode cX3_carried 19 = .ok (.iaload, 1) := by decide +kernel
theorem dX3_carried_20 : decode cX3_carried 20 = .ok (.invokevirtual 61, 3) := by decide +kernel
theorem dX3_carried_23 : decode cX3_carried 23 = .ok (.istore_n 2, 1) := by decide +kernel
theorem dX3_carried_24 : decode cX3_carried 24 = .ok (.iload_n 1, 1) := by decide +kernel
theorem dX3_carried_25 : decode cX3_carried 25 = .ok (.iconst 3, 1) := by decide +kernel
theorem dX3_carried_26 : decode cX3_carried 26 = .ok (.if_icmp .ne 7, 3) := by decide +kernel
theorem dX3_carried_29 : decode cX3_carried 29 = .ok (.iconst 0, 1) := by decide +kernel
theorem dX3_carried_30 : decode cX3_carried 30 = .ok (.goto 14, 3) := by decide +kernel
theorem dX3_carried_33 : decode cX3_carried 33 = .ok (.aload_n 0, 1) := by decide +kernel
theorem dX3_carried_34 : decode cX3_carried 34 = .ok (.iload_n 1, 1) := by decide +kernel
theorem dX3_carried_35 : decode cX3_carried 35 = .ok (.aload_n 0, 1) := by decide +kernel
theorem dX3_carried_36 : decode cX3_carried 36 = .ok (.getfield 18, 3) := by decide +kernel
theorem dX3_carried_39 : decode cX3_carried 39 = .ok (.iload_n 1, 1) := by decide +kernel
theorem dX3_carried_40 : decode cX3_carried 40 = .ok (.iaload, 1) := by decide +kernel
theorem dX3_carried_41 : decode cX3_carried 41 = .ok (.invokevirtual 61, 3) := by decide +kernel
theorem dX3_carried_44 : decode cX3_carried 44 = .ok (.istore_n 3, 1) := by decide +kernel
theorem dX3_carried_45 : decode cX3_carried 45 = .ok (.iload_n 2, 1) := by decide +kernel
theorem dX3_carried_46 : decode cX3_carried 46 = .ok (.iconst (-1), 1) := by decide +kernel
theorem dX3_carried_47 : decode cX3_carried 47 = .ok (.if_icmp .eq 8, 3) := by decide +kernel
theorem dX3_carried_50 : decode cX3_carried 50 = .ok (.iload_n 3, 1) := by decide +kernel
theorem dX3_carried_51 : decode cX3_carried 51 = .ok (.iconst (-1), 1) := by decide +kernel
theorem dX3_carried_52 : decode cX3_carried 52 = .ok (.if_icmp .ne 7, 3) := by decide +kernel
theorem dX3_carried_55 : decode cX3_carried 55 = .ok (.iconst (-1), 1) := by decide +kernel
theorem dX3_carried_56 : decode cX3_carried 56 = .ok (.goto 9, 3) := by decide +kernel
theorem dX3_carried_59 : decode cX3_carried 59 = .ok (.bipush 100, 2) := by decide +kernel
theorem dX3_carried_61 : decode cX3_carried 61 = .ok (.iload_n 3, 1) := by decide +kernel
theorem dX3_carried_62 : decode cX3_carried 62 = .ok (.iadd, 1) := by decide +kernel
theorem dX3_carried_63 : decode cX3_carried 63 = .ok (.iload_n 2, 1) := by decide +kernel
theorem dX3_carried_64 : decode cX3_carried 64 = .ok (.isub, 1) := by decide +kernel
theorem dX3_carried_65 : decode cX3_carried 65 = .ok (.ireturn, 1) := by decide +kernel
theorem dX4_init_0 : decode cX4_init 0 = .ok (.aload_n 0, 1) := by decide +kernel
theorem dX4_init_1 : decode cX4_init 1 = .ok (.invokespecial 3, 3) := by decide +kernel
theorem dX4_init_4 : decode cX4_init 4 = .ok (.aload_n 0, 1) := by decide +kernel
theorem dX4_init_5 : decode cX4_init 5 = .ok (.bipush 40, 2) := by decide +kernel
theorem dX4_init_7 : decode cX4_init 7 = .ok (.newarray .int, 2) := by decide +kernel
theorem dX4_init_9 : decode cX4_init 9 = .ok (.putfield 11, 3) := by decide +kernel
theorem dX4_init_12 : decode cX4_init 12 = .ok (.aload_n 0, 1) := by decide +kernel
theorem dX4_init_13 : decode cX4_init 13 = .ok (.iconst 5, 1) := by decide +kernel
theorem dX4_init_14 : decode cX4_init 14 = .ok (.newarray .int, 2) := by decide +kernel
theorem dX4_init_16 : decode cX4_init 16 = .ok (.putfield 15, 3) := by decide +kernel
theorem dX4_init_19 : decode cX4_init 19 = .ok (.aload_n 0, 1) := by decide +kernel
theorem dX4_init_20 : decode cX4_init 20 = .ok (.iconst 5, 1) := by decide +kernel
theorem dX4_init_21 : decode cX4_init 21 = .ok (.newarray .int, 2) := by decide +kernel
theorem dX4_init_23 : decode cX4_init 23 = .ok (.putfield 18, 3) := by decide +kernel
theorem dX4_init_26 : decode cX4_init 26 = .ok (.aload_n 0, 1) := by decide +kernel
theorem dX4_init_27 : decode cX4_init 27 = .ok (.iconst 5, 1) := by decide +kernel
theorem dX4_init_28 : decode cX4_init 28 = .ok (.newarray .int, 2) := by decide +kernel
theorem dX4_init_30 : decode cX4_init 30 = .ok (.putfield 21, 3) := by decide +kernel
theorem dX4_init_33 : decode cX4_init 33 = .ok (.aload_n 0, 1) := by decide +kernel
theorem dX4_init_34 : decode cX4_init 34 = .ok (.iconst 5, 1) := by decide +kernel
theorem dX4_init_35 : decode cX4_init 35 = .ok (.newarray .int, 2) := by decide +kernel
theorem dX4_init_37 : decode cX4_init 37 = .ok (.putfield 24, 3) := by decide +kernel
theorem dX4_init_40 : decode cX4_init 40 = .ok (.aload_n 0, 1) := by decide +kernel
theorem dX4_init_41 : decode cX4_init 41 = .ok (.iconst 0, 1) := by decide +kernel
theorem dX4_init_42 : decode cX4_init 42 = .ok (.putfield 27, 3) := by decide +kernel
theorem dX4_init_45 : decode cX4_init 45 = .ok (.aload_n 0, 1) := by decide +kernel
theorem dX4_init_46 : decode cX4_init 46 = .ok (.iconst (-1), 1) := by decide +kernel
theorem dX4_init_47 : decode cX4_init 47 = .ok (.putfield 31, 3) := by decide +kernel
theorem dX4_init_50 : decode cX4_init 50 = .ok (.aload_n 0, 1) := by decide +kernel
theorem dX4_init_51 : decode cX4_init 51 = .ok (.iconst 0, 1) := by decide +kernel
theorem dX4_init_52 : decode cX4_init 52 = .ok (.putfield 34, 3) := by decide +kernel
theorem dX4_init_55 : decode cX4_init 55 = .ok (.return_, 1) := by decide +kernel
theorem dX4_append_0 : decode cX4_append 0 = .ok (.aload_n 0, 1) := by decide +kernel
theorem dX4_append_1 : decode cX4_append 1 = .ok (.getfield 27, 3) := by decide +kernel
theorem dX4_append_4 : decode cX4_append 4 = .ok (.bipush 40, 2) := by decide +kernel
theorem dX4_append_6 : decode cX4_append 6 = .ok (.if_icmp .lt 5, 3) := by decide +kernel
theorem dX4_append_9 : decode cX4_append 9 = .ok (.iconst 0, 1) := by decide +kernel
theorem dX4_append_10 : decode cX4_append 10 = .ok (.ireturn, 1) := by decide +kernel
theorem dX4_append_11 : decode cX4_append 11 = .ok (.aload_n 0, 1) := by decide +kernel
theorem dX4_append_12 : decode cX4_append 12 = .ok (.getfield 11, 3) := by decide +kernel
theorem dX4_append_15 : decode cX4_append 15 = .ok (.aload_n 0, 1) := by decide +kernel
theorem dX4_append_16 : decode cX4_append 16 = .ok (.getfield 27, 3) := by decide +kernel
theorem dX4_append_19 : decode cX4_append 19 = .ok (.iload_n 1, 1) := by decide +kernel
theorem dX4_append_20 : decode cX4_append 20 = .ok (.iastore, 1) := by decide +kernel
theorem dX4_append_21 : decode cX4_append 21 = .ok (.aload_n 0, 1) := by decide +kernel
theorem dX4_append_22 : decode cX4_append 22 = .ok (.dup, 1) := by decide +kernel
theorem dX4_append_23 : decode cX4_append 23 = .ok (.getfield 27, 3) := by decide +kernel
theorem dX4_append_26 : decode cX4_append 26 = .ok (.iconst 1, 1) := by decide +kernel
theorem dX4_append_27 : decode cX4_append 27 = .ok (.iadd, 1) := by decide +kernel
theorem dX4_append_28 : decode cX4_append 28 = .ok (.putfield 27, 3) := by decide +kernel
theorem dX4_append_31 : decode cX4_append 31 = .ok (.aload_n 0, 1) := by decide +kernel
theorem dX4_append_32 : decode cX4_append 32 = .ok (.invokevirtual 37, 3) := by decide +kernel
theorem dX4_append_35 : decode cX4_append 35 = .ok (.iconst 1, 1) := by decide +kernel
theorem dX4_append_36 : decode cX4_append 36 = .ok (.ireturn, 1) := by decide +kernel
theorem dX4_dropLast_0 : decode cX4_dropLast 0 = .ok (.aload_n 0, 1) := by decide +kernel
theorem dX4_dropLast_1 : decode cX4_dropLast 1 = .ok (.getfield 27, 3) := by decide +kernel
theorem dX4_dropLast_4 : decode cX4_dropLast 4 = .ok (.ifCond .ne 5, 3) := by decide +kernel
theorem dX4_dropLast_7 : decode cX4_dropLast 7 = .ok (.iconst 0, 1) := by decide +kernel
theorem dX4_dropLast_8 : decode cX4_dropLast 8 = .ok (.ireturn, 1) := by decide +kernel
theorem dX4_dropLast_9 : decode cX4_dropLast 9 = .ok (.aload_n 0, 1) := by decide +kernel
theorem dX4_dropLast_10 : decode cX4_dropLast 10 = .ok (.dup, 1) := by decide +kernel
theorem dX4_dropLast_11 : decode cX4_dropLast 11 = .ok (.getfield 27, 3) := by decide +kernel
theorem dX4_dropLast_14 : decode cX4_dropLast 14 = .ok (.iconst 1, 1) := by decide +kernel
theorem dX4_dropLast_15 : decode cX4_dropLast 15 = .ok (.isub, 1) := by decide +kernel
theorem dX4_dropLast_16 : decode cX4_dropLast 16 = .ok (.putfield 27, 3) := by decide +kernel
theorem dX4_dropLast_19 : decode cX4_dropLast 19 = .ok (.aload_n 0, 1) := by decide +kernel
theorem dX4_dropLast_20 : decode cX4_dropLast 20 = .ok (.invokevirtual 37, 3) := by decide +kernel
theorem dX4_dropLast_23 : decode cX4_dropLast 23 = .ok (.iconst 1, 1) := by decide +kernel
theorem dX4_dropLast_24 : decode cX4_dropLast 24 = .ok (.ireturn, 1) := by decide +kernel
theorem dX4_clear_0 : decode cX4_clear 0 = .ok (.aload_n 0, 1) := by decide +kernel
theorem dX4_clear_1 : decode cX4_clear 1 = .ok (.getfield 27, 3) := by decide +kernel
theorem dX4_clear_4 : decode cX4_clear 4 = .ok (.istore_n 1, 1) := by decide +kernel
theorem dX4_clear_5 : decode cX4_clear 5 = .ok (.aload_n 0, 1) := by decide +kernel
theorem dX4_clear_6 : decode cX4_clear 6 = .ok (.iconst 0, 1) := by decide +kernel
theorem dX4_clear_7 : decode cX4_clear 7 = .ok (.putfield 27, 3) := by decide +kernel
theorem dX4_clear_10 : decode cX4_clear 10 = .ok (.aload_n 0, 1) := by decide +kernel
theorem dX4_clear_11 : decode cX4_clear 11 = .ok (.invokevirtual 37, 3) := by decide +kernel
theorem dX4_clear_14 : decode cX4_clear 14 = .ok (.iload_n 1, 1) := by decide +kernel
theorem dX4_clear_15 : decode cX4_clear 15 = .ok (.ireturn, 1) := by decide +kernel
theorem dX4_figure_0 : decode cX4_figure 0 = .ok (.iload_n 2, 1) := by decide +kernel
theorem dX4_figure_1 : decode cX4_figure 1 = .ok (.tableswitch 48 0 2 #[27, 34, 41], 27) := by decide +kernel
theorem dX4_figure_28 : decode cX4_figure 28 = .ok (.aload_n 0, 1) := by decide +kernel
theorem dX4_figure_29 : decode cX4_figure 29 = .ok (.getfield 15, 3) := by decide +kernel
theorem dX4_figure_32 : decode cX4_figure 32 = .ok (.iload_n 1, 1) := by decide +kernel
theorem dX4_figure_33 : decode cX4_figure 33 = .ok (.iaload, 1) := by decide +kernel
theorem dX4_figure_34 : decode cX4_figure 34 = .ok (.ireturn, 1) := by decide +kernel
theorem dX4_figure_35 : decode cX4_figure 35 = .ok (.aload_n 0, 1) := by decide +kernel
theorem dX4_figure_36 : decode cX4_figure 36 = .ok (.getfield 18, 3) := by decide +kernel
theorem dX4_figure_39 : decode cX4_figure 39 = .ok (.iload_n 1, 1) := by decide +kernel
theorem dX4_figure_40 : decode cX4_figure 40 = .ok (.iaload, 1) := by decide +kernel
theorem dX4_figure_41 : decode cX4_figure 41 = .ok (.ireturn, 1) := by decide +kernel
theorem dX4_figure_42 : decode cX4_figure 42 = .ok (.aload_n 0, 1) := by decide +kernel
theorem dX4_figure_43 : decode cX4_figure 43 = .ok (.getfield 21, 3) := by decide +kernel
theorem dX4_figure_46 : decode cX4_figure 46 = .ok (.iload_n 1, 1) := by decide +kernel
theorem dX4_figure_47 : decode cX4_figure 47 = .ok (.iaload, 1) := by decide +kernel
theorem dX4_figure_48 : decode cX4_figure 48 = .ok (.ireturn, 1) := by decide +kernel
theorem dX4_figure_49 : decode cX4_figure 49 = .ok (.aload_n 0, 1) := by decide +kernel
theorem dX4_figure_50 : decode cX4_figure 50 = .ok (.getfield 24, 3) := by decide +kernel
theorem dX4_figure_53 : decode cX4_figure 53 = .ok (.iload_n 1, 1) := by decide +kernel
theorem dX4_figure_54 : decode cX4_figure 54 = .ok (.iaload, 1) := by decide +kernel
theorem dX4_figure_55 : decode cX4_figure 55 = .ok (.ireturn, 1) := by decide +kernel
theorem dX4_scan_0 : decode cX4_scan 0 = .ok (.iconst 0, 1) := by decide +kernel
theorem dX4_scan_1 : decode cX4_scan 1 = .ok (.istore_n 1, 1) := by decide +kernel
theorem dX4_scan_2 : decode cX4_scan 2 = .ok (.iload_n 1, 1) := by decide +kernel
theorem dX4_scan_3 : decode cX4_scan 3 = .ok (.aload_n 0, 1) := by decide +kernel
theorem dX4_scan_4 : decode cX4_scan 4 = .ok (.getfield 27, 3) := by decide +kernel
theorem dX4_scan_7 : decode cX4_scan 7 = .ok (.if_icmp .ge 17, 3) := by decide +kernel
theorem dX4_scan_10 : decode cX4_scan 10 = .ok (.aload_n 0, 1) := by decide +kernel
theorem dX4_scan_11 : decode cX4_scan 11 = .ok (.iload_n 1, 1) := by decide +kernel
theorem dX4_scan_12 : decode cX4_scan 12 = .ok (.invokevirtual 40, 3) := by decide +kernel
theorem dX4_scan_15 : decode cX4_scan 15 = .ok (.ifCond .eq 9, 3) := by decide +kernel
theorem dX4_scan_18 : decode cX4_scan 18 = .ok (.iinc 1 1, 3) := by decide +kernel
theorem dX4_scan_21 : decode cX4_scan 21 = .ok (.goto (-19), 3) := by decide +kernel
theorem dX4_scan_24 : decode cX4_scan 24 = .ok (.aload_n 0, 1) := by decide +kernel
theorem dX4_scan_25 : decode cX4_scan 25 = .ok (.getfield 27, 3) := by decide +kernel
theorem dX4_scan_28 : decode cX4_scan 28 = .ok (.ifCond .eq 15, 3) := by decide +kernel
theorem dX4_scan_31 : decode cX4_scan 31 = .ok (.aload_n 0, 1) := by decide +kernel
theorem dX4_scan_32 : decode cX4_scan 32 = .ok (.getfield 27, 3) := by decide +kernel
theorem dX4_scan_35 : decode cX4_scan 35 = .ok (.bipush 7, 2) := by decide +kernel
theorem dX4_scan_37 : decode cX4_scan 37 = .ok (.irem, 1) := by decide +kernel
theorem dX4_scan_38 : decode cX4_scan 38 = .ok (.bipush 6, 2) := by decide +kernel
theorem dX4_scan_40 : decode cX4_scan 40 = .ok (.if_icmp .ne 7, 3) := by decide +kernel
theorem dX4_scan_43 : decode cX4_scan 43 = .ok (.iconst 1, 1) := by decide +kernel
theorem dX4_scan_44 : decode cX4_scan 44 = .ok (.goto 4, 3) := by decide +kernel
theorem dX4_scan_47 : decode cX4_scan 47 = .ok (.iconst 0, 1) := by decide +kernel
theorem dX4_scan_48 : decode cX4_scan 48 = .ok (.istore_n 2, 1) := by decide +kernel
theorem dX4_scan_49 : decode cX4_scan 49 = .ok (.aload_n 0, 1) := by decide +kernel
theorem dX4_scan_50 : decode cX4_scan 50 = .ok (.iload_n 1, 1) := by decide +kernel
theorem dX4_scan_51 : decode cX4_scan 51 = .ok (.aload_n 0, 1) := by decide +kernel
theorem dX4_scan_52 : decode cX4_scan 52 = .ok (.getfield 27, 3) := by decide +kernel
theorem dX4_scan_55 : decode cX4_scan 55 = .ok (.if_icmp .ne 11, 3) := by decide +kernel
theorem dX4_scan_58 : decode cX4_scan 58 = .ok (.iload_n 2, 1) := by decide +kernel
theorem dX4_scan_59 : decode cX4_scan 59 = .ok (.ifCond .eq 7, 3) := by decide +kernel
theorem dX4_scan_62 : decode cX4_scan 62 = .ok (.iconst (-1), 1) := by decide +kernel
theorem dX4_scan_63 : decode cX4_scan 63 = .ok (.goto 4, 3) := by decide +kernel
theorem dX4_scan_66 : decode cX4_scan 66 = .ok (.iload_n 1, 1) := by decide +kernel
theorem dX4_scan_67 : decode cX4_scan 67 = .ok (.putfield 31, 3) := by decide +kernel
theorem dX4_scan_70 : decode cX4_scan 70 = .ok (.aload_n 0, 1) := by decide +kernel
theorem dX4_scan_71 : decode cX4_scan 71 = .ok (.aload_n 0, 1) := by decide +kernel
theorem dX4_scan_72 : decode cX4_scan 72 = .ok (.getfield 31, 3) := by decide +kernel
theorem dX4_scan_75 : decode cX4_scan 75 = .ok (.iconst (-1), 1) := by decide +kernel
theorem dX4_scan_76 : decode cX4_scan 76 = .ok (.if_icmp .ne 15, 3) := by decide +kernel
theorem dX4_scan_79 : decode cX4_scan 79 = .ok (.aload_n 0, 1) := by decide +kernel
theorem dX4_scan_80 : decode cX4_scan 80 = .ok (.getfield 27, 3) := by decide +kernel
theorem dX4_scan_83 : decode cX4_scan 83 = .ok (.iconst 1, 1) := by decide +kernel
theorem dX4_scan_84 : decode cX4_scan 84 = .ok (.iadd, 1) := by decide +kernel
theorem dX4_scan_85 : decode cX4_scan 85 = .ok (.bipush 7, 2) := by decide +kernel
theorem dX4_scan_87 : decode cX4_scan 87 = .ok (.idiv, 1) := by decide +kernel
theorem dX4_scan_88 : decode cX4_scan 88 = .ok (.goto 4, 3) := by decide +kernel
theorem dX4_scan_91 : decode cX4_scan 91 = .ok (.iconst 0, 1) := by decide +kernel
theorem dX4_scan_92 : decode cX4_scan 92 = .ok (.putfield 34, 3) := by decide +kernel
theorem dX4_scan_95 : decode cX4_scan 95 = .ok (.iconst 0, 1) := by decide +kernel
theorem dX4_scan_96 : decode cX4_scan 96 = .ok (.istore_n 3, 1) := by decide +kernel
theorem dX4_scan_97 : decode cX4_scan 97 = .ok (.iload_n 3, 1) := by decide +kernel
theorem dX4_scan_98 : decode cX4_scan 98 = .ok (.aload_n 0, 1) := by decide +kernel
theorem dX4_scan_99 : decode cX4_scan 99 = .ok (.getfield 34, 3) := by decide +kernel
theorem dX4_scan_102 : decode cX4_scan 102 = .ok (.if_icmp .ge 14, 3) := by decide +kernel
theorem dX4_scan_105 : decode cX4_scan 105 = .ok (.aload_n 0, 1) := by decide +kernel
theorem dX4_scan_106 : decode cX4_scan 106 = .ok (.iload_n 3, 1) := by decide +kernel
theorem dX4_scan_107 : decode cX4_scan 107 = .ok (.invokevirtual 44, 3) := by decide +kernel
theorem dX4_scan_110 : decode cX4_scan 110 = .ok (.iinc 3 1, 3) := by decide +kernel
theorem dX4_scan_113 : decode cX4_scan 113 = .ok (.goto (-16), 3) := by decide +kernel
theorem dX4_scan_116 : decode cX4_scan 116 = .ok (.return_, 1) := by decide +kernel
theorem dX4_canGoOn_0 : decode cX4_canGoOn 0 = .ok (.iload_n 1, 1) := by decide +kernel
theorem dX4_canGoOn_1 : decode cX4_canGoOn 1 = .ok (.bipush 7, 2) := by decide +kernel
theorem dX4_canGoOn_3 : decode cX4_canGoOn 3 = .ok (.idiv, 1) := by decide +kernel
theorem dX4_canGoOn_4 : decode cX4_canGoOn 4 = .ok (.iconst 5, 1) := by decide +kernel
theorem dX4_canGoOn_5 : decode cX4_canGoOn 5 = .ok (.if_icmp .lt 5, 3) := by decide +kernel
theorem dX4_canGoOn_8 : decode cX4_canGoOn 8 = .ok (.iconst 0, 1) := by decide +kernel
theorem dX4_canGoOn_9 : decode cX4_canGoOn 9 = .ok (.ireturn, 1) := by decide +kernel
theorem dX4_canGoOn_10 : decode cX4_canGoOn 10 = .ok (.aload_n 0, 1) := by decide +kernel
theorem dX4_canGoOn_11 : decode cX4_canGoOn 11 = .ok (.getfield 11, 3) := by decide +kernel
theorem dX4_canGoOn_14 : decode cX4_canGoOn 14 = .ok (.iload_n 1, 1) := by decide +kernel
theorem dX4_canGoOn_15 : decode cX4_canGoOn 15 = .ok (.iaload, 1) := by decide +kernel
theorem dX4_canGoOn_16 : decode cX4_canGoOn 16 = .ok (.istore_n 2, 1) := by decide +kernel
theorem dX4_canGoOn_17 : decode cX4_canGoOn 17 = .ok (.iload_n 1, 1) := by decide +kernel
theorem dX4_canGoOn_18 : decode cX4_canGoOn 18 = .ok (.bipush 7, 2) := by decide +kernel
theorem dX4_canGoOn_20 : decode cX4_canGoOn 20 = .ok (.irem, 1) := by decide +kernel
theorem dX4_canGoOn_21 : decode cX4_canGoOn 21 = .ok (.istore_n 3, 1) := by decide +kernel
theorem dX4_canGoOn_22 : decode cX4_canGoOn 22 = .ok (.iload_n 3, 1) := by decide +kernel
theorem dX4_canGoOn_23 : decode cX4_canGoOn 23 = .ok (.bipush 6, 2) := by decide +kernel
theorem dX4_canGoOn_25 : decode cX4_canGoOn 25 = .ok (.if_icmp .ne 15, 3) := by decide +kernel
theorem dX4_canGoOn_28 : decode cX4_canGoOn 28 = .ok (.iload_n 2, 1) := by decide +kernel
theorem dX4_canGoOn_29 : decode cX4_canGoOn 29 = .ok (.bipush 59, 2) := by decide +kernel
theorem dX4_canGoOn_31 : decode cX4_canGoOn 31 = .ok (.if_icmp .ne 7, 3) := by decide +kernel
theorem dX4_canGoOn_34 : decode cX4_canGoOn 34 = .ok (.iconst 1, 1) := by decide +kernel
theorem dX4_canGoOn_35 : decode cX4_canGoOn 35 = .ok (.goto 4, 3) := by decide +kernel
theorem dX4_canGoOn_38 : decode cX4_canGoOn 38 = .ok (.iconst 0, 1) := by decide +kernel
theorem dX4_canGoOn_39 : decode cX4_canGoOn 39 = .ok (.ireturn, 1) := by decide +kernel
theorem dX4_canGoOn_40 : decode cX4_canGoOn 40 = .ok (.iload_n 2, 1) := by decide +kernel
theorem dX4_canGoOn_41 : decode cX4_canGoOn 41 = .ok (.bipush 48, 2) := by decide +kernel
theorem dX4_canGoOn_43 : decode cX4_canGoOn 43 = .ok (.bipush 57, 2) := by decide +kernel
theorem dX4_canGoOn_45 : decode cX4_canGoOn 45 = .ok (.invokestatic 48, 3) := by decide +kernel
theorem dX4_canGoOn_48 : decode cX4_canGoOn 48 = .ok (.ifCond .eq 5, 3) := by decide +kernel
theorem dX4_canGoOn_51 : decode cX4_canGoOn 51 = .ok (.iconst 0, 1) := by decide +kernel
theorem dX4_canGoOn_52 : decode cX4_canGoOn 52 = .ok (.ireturn, 1) := by decide +kernel
theorem dX4_canGoOn_53 : decode cX4_canGoOn 53 = .ok (.iload_n 3, 1) := by decide +kernel
theorem dX4_canGoOn_54 : decode cX4_canGoOn 54 = .ok (.tableswitch 91 1 5 #[34, 91, 50, 91, 73], 34) := by decide +kernel
theorem dX4_canGoOn_88 : decode cX4_canGoOn 88 = .ok (.aload_n 0, 1) := by decide +kernel
theorem dX4_canGoOn_89 : decode cX4_canGoOn 89 = .ok (.iload_n 1, 1) := by decide +kernel
theorem dX4_canGoOn_90 : decode cX4_canGoOn 90 = .ok (.iconst 1, 1) := by decide +kernel
theorem dX4_canGoOn_91 : decode cX4_canGoOn 91 = .ok (.isub, 1) := by decide +kernel
theorem dX4_canGoOn_92 : decode cX4_canGoOn 92 = .ok (.invokevirtual 52, 3) := by decide +kernel
theorem dX4_canGoOn_95 : decode cX4_canGoOn 95 = .ok (.ifCond .le 7, 3) := by decide +kernel
theorem dX4_canGoOn_98 : decode cX4_canGoOn 98 = .ok (.iconst 1, 1) := by decide +kernel
theorem dX4_canGoOn_99 : decode cX4_canGoOn 99 = .ok (.goto 4, 3) := by decide +kernel
theorem dX4_canGoOn_102 : decode cX4_canGoOn 102 = .ok (.iconst 0, 1) := by decide +kernel
theorem dX4_canGoOn_103 : decode cX4_canGoOn 103 = .ok (.ireturn, 1) := by decide +kernel
theorem dX4_canGoOn_104 : decode cX4_canGoOn 104 = .ok (.aload_n 0, 1) := by decide +kernel
theorem dX4_canGoOn_105 : decode cX4_canGoOn 105 = .ok (.iload_n 1, 1) := by decide +kernel
theorem dX4_canGoOn_106 : decode cX4_canGoOn 106 = .ok (.iconst 1, 1) := by decide +kernel
theorem dX4_canGoOn_107 : decode cX4_canGoOn 107 = .ok (.isub, 1) := by decide +kernel
theorem dX4_canGoOn_108 : decode cX4_canGoOn 108 = .ok (.invokevirtual 52, 3) := by decide +kernel
theorem dX4_canGoOn_111 : decode cX4_canGoOn 111 = .ok (.aload_n 0, 1) := by decide +kernel
theorem dX4_canGoOn_112 : decode cX4_canGoOn 112 = .ok (.iload_n 1, 1) := by decide +kernel
theorem dX4_canGoOn_113 : decode cX4_canGoOn 113 = .ok (.iconst 3, 1) := by decide +kernel
theorem dX4_canGoOn_114 : decode cX4_canGoOn 114 = .ok (.isub, 1) := by decide +kernel
theorem dX4_canGoOn_115 : decode cX4_canGoOn 115 = .ok (.invokevirtual 52, 3) := by decide +kernel
theorem dX4_canGoOn_118 : decode cX4_canGoOn 118 = .ok (.if_icmp .lt 7, 3) := by decide +kernel
theorem dX4_canGoOn_121 : decode cX4_canGoOn 121 = .ok (.iconst 1, 1) := by decide +kernel
theorem dX4_canGoOn_122 : decode cX4_canGoOn 122 = .ok (.goto 4, 3) := by decide +kernel
theorem dX4_canGoOn_125 : decode cX4_canGoOn 125 = .ok (.iconst 0, 1) := by decide +kernel
theorem dX4_canGoOn_126 : decode cX4_canGoOn 126 = .ok (.ireturn, 1) := by decide +kernel
theorem dX4_canGoOn_127 : decode cX4_canGoOn 127 = .ok (.iload_n 2, 1) := by decide +kernel
theorem dX4_canGoOn_128 : decode cX4_canGoOn 128 = .ok (.bipush 48, 2) := by decide +kernel
theorem dX4_canGoOn_130 : decode cX4_canGoOn 130 = .ok (.if_icmp .le 13, 3) := by decide +kernel
theorem dX4_canGoOn_133 : decode cX4_canGoOn 133 = .ok (.iload_n 2, 1) := by decide +kernel
theorem dX4_canGoOn_134 : decode cX4_canGoOn 134 = .ok (.bipush 51, 2) := by decide +kernel
theorem dX4_canGoOn_136 : decode cX4_canGoOn 136 = .ok (.if_icmp .gt 7, 3) := by decide +kernel
theorem dX4_canGoOn_139 : decode cX4_canGoOn 139 = .ok (.iconst 1, 1) := by decide +kernel
theorem dX4_canGoOn_140 : decode cX4_canGoOn 140 = .ok (.goto 4, 3) := by decide +kernel
theorem dX4_canGoOn_143 : decode cX4_canGoOn 143 = .ok (.iconst 0, 1) := by decide +kernel
theorem dX4_canGoOn_144 : decode cX4_canGoOn 144 = .ok (.ireturn, 1) := by decide +kernel
theorem dX4_canGoOn_145 : decode cX4_canGoOn 145 = .ok (.iconst 1, 1) := by decide +kernel
theorem dX4_canGoOn_146 : decode cX4_canGoOn 146 = .ok (.ireturn, 1) := by decide +kernel
theorem dX4_readFigures_0 : decode cX4_readFigures 0 = .ok (.bipush 7, 2) := by decide +kernel
theorem dX4_readFigures_2 : decode cX4_readFigures 2 = .ok (.iload_n 1, 1) := by decide +kernel
theorem dX4_readFigures_3 : decode cX4_readFigures 3 = .ok (.imul, 1) := by decide +kernel
theorem dX4_readFigures_4 : decode cX4_readFigures 4 = .ok (.istore_n 2, 1) := by decide +kernel
theorem dX4_readFigures_5 : decode cX4_readFigures 5 = .ok (.aload_n 0, 1) := by decide +kernel
theorem dX4_readFigures_6 : decode cX4_readFigures 6 = .ok (.getfield 15, 3) := by decide +kernel
theorem dX4_readFigures_9 : decode cX4_readFigures 9 = .ok (.iload_n 1, 1) := by decide +kernel
theorem dX4_readFigures_10 : decode cX4_readFigures 10 = .ok (.aload_n 0, 1) := by decide +kernel
theorem dX4_readFigures_11 : decode cX4_readFigures 11 = .ok (.iload_n 2, 1) := by decide +kernel
theorem dX4_readFigures_12 : decode cX4_readFigures 12 = .ok (.invokevirtual 52, 3) := by decide +kernel
theorem dX4_readFigures_15 : decode cX4_readFigures 15 = .ok (.iastore, 1) := by decide +kernel
theorem dX4_readFigures_16 : decode cX4_readFigures 16 = .ok (.aload_n 0, 1) := by decide +kernel
theorem dX4_readFigures_17 : decode cX4_readFigures 17 = .ok (.getfield 18, 3) := by decide +kernel
theorem dX4_readFigures_20 : decode cX4_readFigures 20 = .ok (.iload_n 1, 1) := by decide +kernel
theorem dX4_readFigures_21 : decode cX4_readFigures 21 = .ok (.aload_n 0, 1) := by decide +kernel
theorem dX4_readFigures_22 : decode cX4_readFigures 22 = .ok (.iload_n 2, 1) := by decide +kernel
theorem dX4_readFigures_23 : decode cX4_readFigures 23 = .ok (.iconst 2, 1) := by decide +kernel
theorem dX4_readFigures_24 : decode cX4_readFigures 24 = .ok (.iadd, 1) := by decide +kernel
theorem dX4_readFigures_25 : decode cX4_readFigures 25 = .ok (.invokevirtual 52, 3) := by decide +kernel
theorem dX4_readFigures_28 : decode cX4_readFigures 28 = .ok (.iastore, 1) := by decide +kernel
theorem dX4_readFigures_29 : decode cX4_readFigures 29 = .ok (.aload_n 0, 1) := by decide +kernel
theorem dX4_readFigures_30 : decode cX4_readFigures 30 = .ok (.getfield 21, 3) := by decide +kernel
theorem dX4_readFigures_33 : decode cX4_readFigures 33 = .ok (.iload_n 1, 1) := by decide +kernel
theorem dX4_readFigures_34 : decode cX4_readFigures 34 = .ok (.aload_n 0, 1) := by decide +kernel
theorem dX4_readFigures_35 : decode cX4_readFigures 35 = .ok (.getfield 11, 3) := by decide +kernel
theorem dX4_readFigures_38 : decode cX4_readFigures 38 = .ok (.iload_n 2, 1) := by decide +kernel
theorem dX4_readFigures_39 : decode cX4_readFigures 39 = .ok (.iconst 4, 1) := by decide +kernel
theorem dX4_readFigures_40 : decode cX4_readFigures 40 = .ok (.iadd, 1) := by decide +kernel
theorem dX4_readFigures_41 : decode cX4_readFigures 41 = .ok (.iaload, 1) := by decide +kernel
theorem dX4_readFigures_42 : decode cX4_readFigures 42 = .ok (.bipush 48, 2) := by decide +kernel
theorem dX4_readFigures_44 : decode cX4_readFigures 44 = .ok (.isub, 1) := by decide +kernel
theorem dX4_readFigures_45 : decode cX4_readFigures 45 = .ok (.iastore, 1) := by decide +kernel
theorem dX4_readFigures_46 : decode cX4_readFigures 46 = .ok (.aload_n 0, 1) := by decide +kernel
theorem dX4_readFigures_47 : decode cX4_readFigures 47 = .ok (.getfield 24, 3) := by decide +kernel
theorem dX4_readFigures_50 : decode cX4_readFigures 50 = .ok (.iload_n 1, 1) := by decide +kernel
theorem dX4_readFigures_51 : decode cX4_readFigures 51 = .ok (.aload_n 0, 1) := by decide +kernel
theorem dX4_readFigures_52 : decode cX4_readFigures 52 = .ok (.getfield 11, 3) := by decide +kernel
theorem dX4_readFigures_55 : decode cX4_readFigures 55 = .ok (.iload_n 2, 1) := by decide +kernel
theorem dX4_readFigures_56 : decode cX4_readFigures 56 = .ok (.iconst 5, 1) := by decide +kernel
theorem dX4_readFigures_57 : decode cX4_readFigures 57 = .ok (.iadd, 1) := by decide +kernel
theorem dX4_readFigures_58 : decode cX4_readFigures 58 = .ok (.iaload, 1) := by decide +kernel
theorem dX4_readFigures_59 : decode cX4_readFigures 59 = .ok (.bipush 48, 2) := by decide +kernel
theorem dX4_readFigures_61 : decode cX4_readFigures 61 = .ok (.isub, 1) := by decide +kernel
theorem dX4_readFigures_62 : decode cX4_readFigures 62 = .ok (.iastore, 1) := by decide +kernel
theorem dX4_readFigures_63 : decode cX4_readFigures 63 = .ok (.return_, 1) := by decide +kernel
theorem dX4_twoFigures_0 : decode cX4_twoFigures 0 = .ok (.bipush 10, 2) := by decide +kernel
theorem dX4_twoFigures_2 : decode cX4_twoFigures 2 = .ok (.aload_n 0, 1) := by decide +kernel
theorem dX4_twoFigures_3 : decode cX4_twoFigures 3 = .ok (.getfield 11, 3) := by decide +kernel
theorem dX4_twoFigures_6 : decode cX4_twoFigures 6 = .ok (.iload_n 1, 1) := by decide +kernel
theorem dX4_twoFigures_7 : decode cX4_twoFigures 7 = .ok (.iaload, 1) := by decide +kernel
theorem dX4_twoFigures_8 : decode cX4_twoFigures 8 = .ok (.bipush 48, 2) := by decide +kernel
theorem dX4_twoFigures_10 : decode cX4_twoFigures 10 = .ok (.isub, 1) := by decide +kernel
theorem dX4_twoFigures_11 : decode cX4_twoFigures 11 = .ok (.imul, 1) := by decide +kernel
theorem dX4_twoFigures_12 : decode cX4_twoFigures 12 = .ok (.aload_n 0, 1) := by decide +kernel
theorem dX4_twoFigures_13 : decode cX4_twoFigures 13 = .ok (.getfield 11, 3) := by decide +kernel
theorem dX4_twoFigures_16 : decode cX4_twoFigures 16 = .ok (.iload_n 1, 1) := by decide +kernel
theorem dX4_twoFigures_17 : decode cX4_twoFigures 17 = .ok (.iconst 1, 1) := by decide +kernel
theorem dX4_twoFigures_18 : decode cX4_twoFigures 18 = .ok (.iadd, 1) := by decide +kernel
theorem dX4_twoFigures_19 : decode cX4_twoFigures 19 = .ok (.iaload, 1) := by decide +kernel
theorem dX4_twoFigures_20 : decode cX4_twoFigures 20 = .ok (.iadd, 1) := by decide +kernel
theorem dX4_twoFigures_21 : decode cX4_twoFigures 21 = .ok (.bipush 48, 2) := by decide +kernel
theorem dX4_twoFigures_23 : decode cX4_twoFigures 23 = .ok (.isub, 1) := by decide +kernel
theorem dX4_twoFigures_24 : decode cX4_twoFigures 24 = .ok (.ireturn, 1) := by decide +kernel
theorem dX5_init_0 : decode cX5_init 0 = .ok (.aload_n 0, 1) := by decide +kernel
theorem dX5_init_1 : decode cX5_init 1 = .ok (.invokespecial 3, 3) := by decide +kernel
theorem dX5_init_4 : decode cX5_init 4 = .ok (.aload_n 0, 1) := by decide +kernel
theorem dX5_init_5 : decode cX5_init 5 = .ok (.iconst 4, 1) := by decide +kernel
theorem dX5_init_6 : decode cX5_init 6 = .ok (.bipush 60, 2) := by decide +kernel
theorem dX5_init_8 : decode cX5_init 8 = .ok (.multianewarray 11 2, 4) := by decide +kernel
theorem dX5_init_12 : decode cX5_init 12 = .ok (.putfield 13, 3) := by decide +kernel
theorem dX5_init_15 : decode cX5_init 15 = .ok (.aload_n 0, 1) := by decide +kernel
theorem dX5_init_16 : decode cX5_init 16 = .ok (.iconst 4, 1) := by decide +kernel
theorem dX5_init_17 : decode cX5_init 17 = .ok (.newarray .int, 2) := by decide +kernel
theorem dX5_init_19 : decode cX5_init 19 = .ok (.dup, 1) := by decide +kernel
theorem dX5_init_20 : decode cX5_init 20 = .ok (.iconst 0, 1) := by decide +kernel
theorem dX5_init_21 : decode cX5_init 21 = .ok (.iconst 0, 1) := by decide +kernel
theorem dX5_init_22 : decode cX5_init 22 = .ok (.iastore, 1) := by decide +kernel
theorem dX5_init_23 : decode cX5_init 23 = .ok (.dup, 1) := by decide +kernel
theorem dX5_init_24 : decode cX5_init 24 = .ok (.iconst 1, 1) := by decide +kernel
theorem dX5_init_25 : decode cX5_init 25 = .ok (.iconst 0, 1) := by decide +kernel
theorem dX5_init_26 : decode cX5_init 26 = .ok (.iastore, 1) := by decide +kernel
theorem dX5_init_27 : decode cX5_init 27 = .ok (.dup, 1) := by decide +kernel
theorem dX5_init_28 : decode cX5_init 28 = .ok (.iconst 2, 1) := by decide +kernel
theorem dX5_init_29 : decode cX5_init 29 = .ok (.iconst 0, 1) := by decide +kernel
theorem dX5_init_30 : decode cX5_init 30 = .ok (.iastore, 1) := by decide +kernel
theorem dX5_init_31 : decode cX5_init 31 = .ok (.dup, 1) := by decide +kernel
theorem dX5_init_32 : decode cX5_init 32 = .ok (.iconst 3, 1) := by decide +kernel
theorem dX5_init_33 : decode cX5_init 33 = .ok (.iconst 0, 1) := by decide +kernel
theorem dX5_init_34 : decode cX5_init 34 = .ok (.iastore, 1) := by decide +kernel
theorem dX5_init_35 : decode cX5_init 35 = .ok (.putfield 16, 3) := by decide +kernel
theorem dX5_init_38 : decode cX5_init 38 = .ok (.aload_n 0, 1) := by decide +kernel
theorem dX5_init_39 : decode cX5_init 39 = .ok (.iconst 4, 1) := by decide +kernel
theorem dX5_init_40 : decode cX5_init 40 = .ok (.newarray .int, 2) := by decide +kernel
theorem dX5_init_42 : decode cX5_init 42 = .ok (.dup, 1) := by decide +kernel
theorem dX5_init_43 : decode cX5_init 43 = .ok (.iconst 0, 1) := by decide +kernel
theorem dX5_init_44 : decode cX5_init 44 = .ok (.iconst (-1), 1) := by decide +kernel
theorem dX5_init_45 : decode cX5_init 45 = .ok (.iastore, 1) := by decide +kernel
theorem dX5_init_46 : decode cX5_init 46 = .ok (.dup, 1) := by decide +kernel
theorem dX5_init_47 : decode cX5_init 47 = .ok (.iconst 1, 1) := by decide +kernel
theorem dX5_init_48 : decode cX5_init 48 = .ok (.iconst (-1), 1) := by decide +kernel
theorem dX5_init_49 : decode cX5_init 49 = .ok (.iastore, 1) := by decide +kernel
theorem dX5_init_50 : decode cX5_init 50 = .ok (.dup, 1) := by decide +kernel
theorem dX5_init_51 : decode cX5_init 51 = .ok (.iconst 2, 1) := by decide +kernel
theorem dX5_init_52 : decode cX5_init 52 = .ok (.iconst (-1), 1) := by decide +kernel
theorem dX5_init_53 : decode cX5_init 53 = .ok (.iastore, 1) := by decide +kernel
theorem dX5_init_54 : decode cX5_init 54 = .ok (.dup, 1) := by decide +kernel
theorem dX5_init_55 : decode cX5_init 55 = .ok (.iconst 3, 1) := by decide +kernel
theorem dX5_init_56 : decode cX5_init 56 = .ok (.iconst (-1), 1) := by decide +kernel
theorem dX5_init_57 : decode cX5_init 57 = .ok (.iastore, 1) := by decide +kernel
theorem dX5_init_58 : decode cX5_init 58 = .ok (.putfield 20, 3) := by decide +kernel
theorem dX5_init_61 : decode cX5_init 61 = .ok (.aload_n 0, 1) := by decide +kernel
theorem dX5_init_62 : decode cX5_init 62 = .ok (.iconst 0, 1) := by decide +kernel
theorem dX5_init_63 : decode cX5_init 63 = .ok (.putfield 23, 3) := by decide +kernel
theorem dX5_init_66 : decode cX5_init 66 = .ok (.return_, 1) := by decide +kernel
theorem dX5_isLost_0 : decode cX5_isLost 0 = .ok (.aload_n 0, 1) := by decide +kernel
theorem dX5_isLost_1 : decode cX5_isLost 1 = .ok (.getfield 20, 3) := by decide +kernel
theorem dX5_isLost_4 : decode cX5_isLost 4 = .ok (.iload_n 1, 1) := by decide +kernel
theorem dX5_isLost_5 : decode cX5_isLost 5 = .ok (.iaload, 1) := by decide +kernel
theorem dX5_isLost_6 : decode cX5_isLost 6 = .ok (.iconst (-1), 1) := by decide +kernel
theorem dX5_isLost_7 : decode cX5_isLost 7 = .ok (.if_icmp .ne 7, 3) := by decide +kernel
theorem dX5_isLost_10 : decode cX5_isLost 10 = .ok (.iconst 1, 1) := by decide +kernel
theorem dX5_isLost_11 : decode cX5_isLost 11 = .ok (.goto 4, 3) := by decide +kernel
theorem dX5_isLost_14 : decode cX5_isLost 14 = .ok (.iconst 0, 1) := by decide +kernel
theorem dX5_isLost_15 : decode cX5_isLost 15 = .ok (.ireturn, 1) := by decide +kernel
theorem dX5_found_0 : decode cX5_found 0 = .ok (.aload_n 0, 1) := by decide +kernel
theorem dX5_found_1 : decode cX5_found 1 = .ok (.iload_n 1, 1) := by decide +kernel
theorem dX5_found_2 : decode cX5_found 2 = .ok (.putfield 23, 3) := by decide +kernel
theorem dX5_found_5 : decode cX5_found 5 = .ok (.bipush (-10), 2) := by decide +kernel
theorem dX5_found_7 : decode cX5_found 7 = .ok (.iload_n 1, 1) := by decide +kernel
theorem dX5_found_8 : decode cX5_found 8 = .ok (.isub, 1) := by decide +kernel
theorem dX5_found_9 : decode cX5_found 9 = .ok (.ireturn, 1) := by decide +kernel
theorem dX5_renew_0 : decode cX5_renew 0 = .ok (.aload_n 0, 1) := by decide +kernel
theorem dX5_renew_1 : decode cX5_renew 1 = .ok (.getfield 13, 3) := by decide +kernel
theorem dX5_renew_4 : decode cX5_renew 4 = .ok (.iload_n 1, 1) := by decide +kernel
theorem dX5_renew_5 : decode cX5_renew 5 = .ok (.aaload, 1) := by decide +kernel
theorem dX5_renew_6 : decode cX5_renew 6 = .ok (.iconst 0, 1) := by decide +kernel
theorem dX5_renew_7 : decode cX5_renew 7 = .ok (.invokestatic 27, 3) := by decide +kernel
theorem dX5_renew_10 : decode cX5_renew 10 = .ok (.aload_n 0, 1) := by decide +kernel
theorem dX5_renew_11 : decode cX5_renew 11 = .ok (.getfield 16, 3) := by decide +kernel
theorem dX5_renew_14 : decode cX5_renew 14 = .ok (.iload_n 1, 1) := by decide +kernel
theorem dX5_renew_15 : decode cX5_renew 15 = .ok (.iload_n 2, 1) := by decide +kernel
theorem dX5_renew_16 : decode cX5_renew 16 = .ok (.iastore, 1) := by decide +kernel
theorem dX5_renew_17 : decode cX5_renew 17 = .ok (.aload_n 0, 1) := by decide +kernel
theorem dX5_renew_18 : decode cX5_renew 18 = .ok (.getfield 20, 3) := by decide +kernel
theorem dX5_renew_21 : decode cX5_renew 21 = .ok (.iload_n 1, 1) := by decide +kernel
theorem dX5_renew_22 : decode cX5_renew 22 = .ok (.iload_n 3, 1) := by decide +kernel
theorem dX5_renew_23 : decode cX5_renew 23 = .ok (.iastore, 1) := by decide +kernel
theorem dX5_renew_24 : decode cX5_renew 24 = .ok (.return_, 1) := by decide +kernel
theorem dX5_check_0 : decode cX5_check 0 = .ok (.aload_n 0, 1) := by decide +kernel
theorem dX5_check_1 : decode cX5_check 1 = .ok (.iload_n 1, 1) := by decide +kernel
theorem dX5_check_2 : decode cX5_check 2 = .ok (.invokevirtual 33, 3) := by decide +kernel
theorem dX5_check_5 : decode cX5_check 5 = .ok (.ifCond .eq 5, 3) := by decide +kernel
theorem dX5_check_8 : decode cX5_check 8 = .ok (.iconst 1, 1) := by decide +kernel
theorem dX5_check_9 : decode cX5_check 9 = .ok (.ireturn, 1) := by decide +kernel
theorem dX5_check_10 : decode cX5_check 10 = .ok (.aload_n 0, 1) := by decide +kernel
theorem dX5_check_11 : decode cX5_check 11 = .ok (.getfield 16, 3) := by decide +kernel
theorem dX5_check_14 : decode cX5_check 14 = .ok (.iload_n 1, 1) := by decide +kernel
theorem dX5_check_15 : decode cX5_check 15 = .ok (.iaload, 1) := by decide +kernel
theorem dX5_check_16 : decode cX5_check 16 = .ok (.iload_n 2, 1) := by decide +kernel
theorem dX5_check_17 : decode cX5_check 17 = .ok (.if_icmp .eq 5, 3) := by decide +kernel
theorem dX5_check_20 : decode cX5_check 20 = .ok (.iconst 3, 1) := by decide +kernel
theorem dX5_check_21 : decode cX5_check 21 = .ok (.ireturn, 1) := by decide +kernel
theorem dX5_check_22 : decode cX5_check 22 = .ok (.iload_n 3, 1) := by decide +kernel
theorem dX5_check_23 : decode cX5_check 23 = .ok (.iconst 0, 1) := by decide +kernel
theorem dX5_check_24 : decode cX5_check 24 = .ok (.aload_n 0, 1) := by decide +kernel
theorem dX5_check_25 : decode cX5_check 25 = .ok (.getfield 20, 3) := by decide +kernel
theorem dX5_check_28 : decode cX5_check 28 = .ok (.iload_n 1, 1) := by decide +kernel
theorem dX5_check_29 : decode cX5_check 29 = .ok (.iaload, 1) := by decide +kernel
theorem dX5_check_30 : decode cX5_check 30 = .ok (.iconst 1, 1) := by decide +kernel
theorem dX5_check_31 : decode cX5_check 31 = .ok (.isub, 1) := by decide +kernel
theorem dX5_check_32 : decode cX5_check 32 = .ok (.invokestatic 37, 3) := by decide +kernel
theorem dX5_check_35 : decode cX5_check 35 = .ok (.ifCond .eq 7, 3) := by decide +kernel
theorem dX5_check_38 : decode cX5_check 38 = .ok (.iconst 2, 1) := by decide +kernel
theorem dX5_check_39 : decode cX5_check 39 = .ok (.goto 4, 3) := by decide +kernel
theorem dX5_check_42 : decode cX5_check 42 = .ok (.iconst 0, 1) := by decide +kernel
theorem dX5_check_43 : decode cX5_check 43 = .ok (.ireturn, 1) := by decide +kernel
theorem dX5_holds_0 : decode cX5_holds 0 = .ok (.iload_n 2, 1) := by decide +kernel
theorem dX5_holds_1 : decode cX5_holds 1 = .ok (.ifCond .lt 33, 3) := by decide +kernel
theorem dX5_holds_4 : decode cX5_holds 4 = .ok (.iload_n 3, 1) := by decide +kernel
theorem dX5_holds_5 : decode cX5_holds 5 = .ok (.ifCond .lt 29, 3) := by decide +kernel
theorem dX5_holds_8 : decode cX5_holds 8 = .ok (.iload_n 2, 1) := by decide +kernel
theorem dX5_holds_9 : decode cX5_holds 9 = .ok (.aload_n 0, 1) := by decide +kernel
theorem dX5_holds_10 : decode cX5_holds 10 = .ok (.getfield 20, 3) := by decide +kernel
theorem dX5_holds_13 : decode cX5_holds 13 = .ok (.iload_n 1, 1) := by decide +kernel
theorem dX5_holds_14 : decode cX5_holds 14 = .ok (.iaload, 1) := by decide +kernel
theorem dX5_holds_15 : decode cX5_holds 15 = .ok (.if_icmp .gt 19, 3) := by decide +kernel
theorem dX5_holds_18 : decode cX5_holds 18 = .ok (.iload_n 3, 1) := by decide +kernel
theorem dX5_holds_19 : decode cX5_holds 19 = .ok (.aload_n 0, 1) := by decide +kernel
theorem dX5_holds_20 : decode cX5_holds 20 = .ok (.getfield 20, 3) := by decide +kernel
theorem dX5_holds_23 : decode cX5_holds 23 = .ok (.iload_n 1, 1) := by decide +kernel
theorem dX5_holds_24 : decode cX5_holds 24 = .ok (.iaload, 1) := by decide +kernel
theorem dX5_holds_25 : decode cX5_holds 25 = .ok (.iload_n 2, 1) := by decide +kernel
theorem dX5_holds_26 : decode cX5_holds 26 = .ok (.isub, 1) := by decide +kernel
theorem dX5_holds_27 : decode cX5_holds 27 = .ok (.if_icmp .gt 7, 3) := by decide +kernel
theorem dX5_holds_30 : decode cX5_holds 30 = .ok (.iconst 1, 1) := by decide +kernel
theorem dX5_holds_31 : decode cX5_holds 31 = .ok (.goto 4, 3) := by decide +kernel
theorem dX5_holds_34 : decode cX5_holds 34 = .ok (.iconst 0, 1) := by decide +kernel
theorem dX5_holds_35 : decode cX5_holds 35 = .ok (.ireturn, 1) := by decide +kernel
theorem dX5_put_0 : decode cX5_put 0 = .ok (.aload_n 0, 1) := by decide +kernel
theorem dX5_put_1 : decode cX5_put 1 = .ok (.getfield 16, 3) := by decide +kernel
theorem dX5_put_4 : decode cX5_put 4 = .ok (.iload_n 1, 1) := by decide +kernel
theorem dX5_put_5 : decode cX5_put 5 = .ok (.iaload, 1) := by decide +kernel
theorem dX5_put_6 : decode cX5_put 6 = .ok (.lookupswitch 52 #[(0, 26), (1, 39)], 26) := by decide +kernel
theorem dX5_put_32 : decode cX5_put 32 = .ok (.aload_n 0, 1) := by decide +kernel
theorem dX5_put_33 : decode cX5_put 33 = .ok (.getfield 13, 3) := by decide +kernel
theorem dX5_put_36 : decode cX5_put 36 = .ok (.iload_n 1, 1) := by decide +kernel
theorem dX5_put_37 : decode cX5_put 37 = .ok (.aaload, 1) := by decide +kernel
theorem dX5_put_38 : decode cX5_put 38 = .ok (.iload_n 2, 1) := by decide +kernel
theorem dX5_put_39 : decode cX5_put 39 = .ok (.iload_n 3, 1) := by decide +kernel
theorem dX5_put_40 : decode cX5_put 40 = .ok (.i2b, 1) := by decide +kernel
theorem dX5_put_41 : decode cX5_put 41 = .ok (.iastore, 1) := by decide +kernel
theorem dX5_put_42 : decode cX5_put 42 = .ok (.goto 25, 3) := by decide +kernel
theorem dX5_put_45 : decode cX5_put 45 = .ok (.aload_n 0, 1) := by decide +kernel
theorem dX5_put_46 : decode cX5_put 46 = .ok (.getfield 13, 3) := by decide +kernel
theorem dX5_put_49 : decode cX5_put 49 = .ok (.iload_n 1, 1) := by decide +kernel
theorem dX5_put_50 : decode cX5_put 50 = .ok (.aaload, 1) := by decide +kernel
theorem dX5_put_51 : decode cX5_put 51 = .ok (.iload_n 2, 1) := by decide +kernel
theorem dX5_put_52 : decode cX5_put 52 = .ok (.iload_n 3, 1) := by decide +kernel
theorem dX5_put_53 : decode cX5_put 53 = .ok (.i2s, 1) := by decide +kernel
theorem dX5_put_54 : decode cX5_put 54 = .ok (.iastore, 1) := by decide +kernel
theorem dX5_put_55 : decode cX5_put 55 = .ok (.goto 12, 3) := by decide +kernel
theorem dX5_put_58 : decode cX5_put 58 = .ok (.aload_n 0, 1) := by decide +kernel
theorem dX5_put_59 : decode cX5_put 59 = .ok (.getfield 13, 3) := by decide +kernel
theorem dX5_put_62 : decode cX5_put 62 = .ok (.iload_n 1, 1) := by decide +kernel
theorem dX5_put_63 : decode cX5_put 63 = .ok (.aaload, 1) := by decide +kernel
theorem dX5_put_64 : decode cX5_put 64 = .ok (.iload_n 2, 1) := by decide +kernel
theorem dX5_put_65 : decode cX5_put 65 = .ok (.iload_n 3, 1) := by decide +kernel
theorem dX5_put_66 : decode cX5_put 66 = .ok (.iastore, 1) := by decide +kernel
theorem dX5_put_67 : decode cX5_put 67 = .ok (.return_, 1) := by decide +kernel
theorem dX6_init_0 : decode cX6_init 0 = .ok (.aload_n 0, 1) := by decide +kernel
theorem dX6_init_1 : decode cX6_init 1 = .ok (.invokespecial 3, 3) := by decide +kernel
theorem dX6_init_4 : decode cX6_init 4 = .ok (.aload_n 0, 1) := by decide +kernel
theorem dX6_init_5 : decode cX6_init 5 = .ok (.bipush 7, 2) := by decide +kernel
theorem dX6_init_7 : decode cX6_init 7 = .ok (.newarray .int, 2) := by decide +kernel
theorem dX6_init_9 : decode cX6_init 9 = .ok (.dup, 1) := by decide +kernel
theorem dX6_init_10 : decode cX6_init 10 = .ok (.iconst 0, 1) := by decide +kernel
theorem dX6_init_11 : decode cX6_init 11 = .ok (.bipush 20, 2) := by decide +kernel
theorem dX6_init_13 : decode cX6_init 13 = .ok (.iastore, 1) := by decide +kernel
theorem dX6_init_14 : decode cX6_init 14 = .ok (.dup, 1) := by decide +kernel
theorem dX6_init_15 : decode cX6_init 15 = .ok (.iconst 1, 1) := by decide +kernel
theorem dX6_init_16 : decode cX6_init 16 = .ok (.iconst 1, 1) := by decide +kernel
theorem dX6_init_17 : decode cX6_init 17 = .ok (.iastore, 1) := by decide +kernel
theorem dX6_init_18 : decode cX6_init 18 = .ok (.dup, 1) := by decide +kernel
theorem dX6_init_19 : decode cX6_init 19 = .ok (.iconst 2, 1) := by decide +kernel
theorem dX6_init_20 : decode cX6_init 20 = .ok (.bipush 20, 2) := by decide +kernel
theorem dX6_init_22 : decode cX6_init 22 = .ok (.iastore, 1) := by decide +kernel
theorem dX6_init_23 : decode cX6_init 23 = .ok (.dup, 1) := by decide +kernel
theorem dX6_init_24 : decode cX6_init 24 = .ok (.iconst 3, 1) := by decide +kernel
theorem dX6_init_25 : decode cX6_init 25 = .ok (.iconst 0, 1) := by decide +kernel
theorem dX6_init_26 : decode cX6_init 26 = .ok (.iastore, 1) := by decide +kernel
theorem dX6_init_27 : decode cX6_init 27 = .ok (.dup, 1) := by decide +kernel
theorem dX6_init_28 : decode cX6_init 28 = .ok (.iconst 4, 1) := by decide +kernel
theorem dX6_init_29 : decode cX6_init 29 = .ok (.iconst 0, 1) := by decide +kernel
theorem dX6_init_30 : decode cX6_init 30 = .ok (.iastore, 1) := by decide +kernel
theorem dX6_init_31 : decode cX6_init 31 = .ok (.dup, 1) := by decide +kernel
theorem dX6_init_32 : decode cX6_init 32 = .ok (.iconst 5, 1) := by decide +kernel
theorem dX6_init_33 : decode cX6_init 33 = .ok (.bipush 30, 2) := by decide +kernel
theorem dX6_init_35 : decode cX6_init 35 = .ok (.iastore, 1) := by decide +kernel
theorem dX6_init_36 : decode cX6_init 36 = .ok (.dup, 1) := by decide +kernel
theorem dX6_init_37 : decode cX6_init 37 = .ok (.bipush 6, 2) := by decide +kernel
theorem dX6_init_39 : decode cX6_init 39 = .ok (.iconst 5, 1) := by decide +kernel
theorem dX6_init_40 : decode cX6_init 40 = .ok (.iastore, 1) := by decide +kernel
theorem dX6_init_41 : decode cX6_init 41 = .ok (.putfield 9, 3) := by decide +kernel
theorem dX6_init_44 : decode cX6_init 44 = .ok (.aload_n 0, 1) := by decide +kernel
theorem dX6_init_45 : decode cX6_init 45 = .ok (.iconst 4, 1) := by decide +kernel
theorem dX6_init_46 : decode cX6_init 46 = .ok (.newarray .int, 2) := by decide +kernel
theorem dX6_init_48 : decode cX6_init 48 = .ok (.dup, 1) := by decide +kernel
theorem dX6_init_49 : decode cX6_init 49 = .ok (.iconst 0, 1) := by decide +kernel
theorem dX6_init_50 : decode cX6_init 50 = .ok (.iconst 0, 1) := by decide +kernel
theorem dX6_init_51 : decode cX6_init 51 = .ok (.iastore, 1) := by decide +kernel
theorem dX6_init_52 : decode cX6_init 52 = .ok (.dup, 1) := by decide +kernel
theorem dX6_init_53 : decode cX6_init 53 = .ok (.iconst 1, 1) := by decide +kernel
theorem dX6_init_54 : decode cX6_init 54 = .ok (.iconst 0, 1) := by decide +kernel
theorem dX6_init_55 : decode cX6_init 55 = .ok (.iastore, 1) := by decide +kernel
theorem dX6_init_56 : decode cX6_init 56 = .ok (.dup, 1) := by decide +kernel
theorem dX6_init_57 : decode cX6_init 57 = .ok (.iconst 2, 1) := by decide +kernel
theorem dX6_init_58 : decode cX6_init 58 = .ok (.iconst 0, 1) := by decide +kernel
theorem dX6_init_59 : decode cX6_init 59 = .ok (.iastore, 1) := by decide +kernel
theorem dX6_init_60 : decode cX6_init 60 = .ok (.dup, 1) := by decide +kernel
theorem dX6_init_61 : decode cX6_init 61 = .ok (.iconst 3, 1) := by decide +kernel
theorem dX6_init_62 : decode cX6_init 62 = .ok (.iconst 0, 1) := by decide +kernel
theorem dX6_init_63 : decode cX6_init 63 = .ok (.iastore, 1) := by decide +kernel
theorem dX6_init_64 : decode cX6_init 64 = .ok (.putfield 15, 3) := by decide +kernel
theorem dX6_init_67 : decode cX6_init 67 = .ok (.aload_n 0, 1) := by decide +kernel
theorem dX6_init_68 : decode cX6_init 68 = .ok (.aload_n 1, 1) := by decide +kernel
theorem dX6_init_69 : decode cX6_init 69 = .ok (.putfield 18, 3) := by decide +kernel
theorem dX6_init_72 : decode cX6_init 72 = .ok (.return_, 1) := by decide +kernel
theorem dX6_setRule_0 : decode cX6_setRule 0 = .ok (.aload_n 0, 1) := by decide +kernel
theorem dX6_setRule_1 : decode cX6_setRule 1 = .ok (.getfield 9, 3) := by decide +kernel
theorem dX6_setRule_4 : decode cX6_setRule 4 = .ok (.iload_n 1, 1) := by decide +kernel
theorem dX6_setRule_5 : decode cX6_setRule 5 = .ok (.iload_n 2, 1) := by decide +kernel
theorem dX6_setRule_6 : decode cX6_setRule 6 = .ok (.invokestatic 22, 3) := by decide +kernel
theorem dX6_setRule_9 : decode cX6_setRule 9 = .ok (.istore_n 3, 1) := by decide +kernel
theorem dX6_setRule_10 : decode cX6_setRule 10 = .ok (.iconst 0, 1) := by decide +kernel
theorem dX6_setRule_11 : decode cX6_setRule 11 = .ok (.istore 4, 2) := by decide +kernel
theorem dX6_setRule_13 : decode cX6_setRule 13 = .ok (.iload 4, 2) := by decide +kernel
theorem dX6_setRule_15 : decode cX6_setRule 15 = .ok (.iconst 4, 1) := by decide +kernel
theorem dX6_setRule_16 : decode cX6_setRule 16 = .ok (.if_icmp .ge 40, 3) := by decide +kernel
theorem dX6_setRule_19 : decode cX6_setRule 19 = .ok (.aload_n 0, 1) := by decide +kernel
theorem dX6_setRule_20 : decode cX6_setRule 20 = .ok (.getfield 15, 3) := by decide +kernel
theorem dX6_setRule_23 : decode cX6_setRule 23 = .ok (.iload 4, 2) := by decide +kernel
theorem dX6_setRule_25 : decode cX6_setRule 25 = .ok (.aload_n 0, 1) := by decide +kernel
theorem dX6_setRule_26 : decode cX6_setRule 26 = .ok (.getfield 9, 3) := by decide +kernel
theorem dX6_setRule_29 : decode cX6_setRule 29 = .ok (.iconst 3, 1) := by decide +kernel
theorem dX6_setRule_30 : decode cX6_setRule 30 = .ok (.iaload, 1) := by decide +kernel
theorem dX6_setRule_31 : decode cX6_setRule 31 = .ok (.iload 4, 2) := by decide +kernel
theorem dX6_setRule_33 : decode cX6_setRule 33 = .ok (.iconst 2, 1) := by decide +kernel
theorem dX6_setRule_34 : decode cX6_setRule 34 = .ok (.irem, 1) := by decide +kernel
theorem dX6_setRule_35 : decode cX6_setRule 35 = .ok (.ifCond .ne 12, 3) := by decide +kernel
theorem dX6_setRule_38 : decode cX6_setRule 38 = .ok (.aload_n 0, 1) := by decide +kernel
theorem dX6_setRule_39 : decode cX6_setRule 39 = .ok (.getfield 9, 3) := by decide +kernel
theorem dX6_setRule_42 : decode cX6_setRule 42 = .ok (.iconst 4, 1) := by decide +kernel
theorem dX6_setRule_43 : decode cX6_setRule 43 = .ok (.iaload, 1) := by decide +kernel
theorem dX6_setRule_44 : decode cX6_setRule 44 = .ok (.goto 4, 3) := by decide +kernel
theorem dX6_setRule_47 : decode cX6_setRule 47 = .ok (.iconst 0, 1) := by decide +kernel
theorem dX6_setRule_48 : decode cX6_setRule 48 = .ok (.iadd, 1) := by decide +kernel
theorem dX6_setRule_49 : decode cX6_setRule 49 = .ok (.iastore, 1) := by decide +kernel
theorem dX6_setRule_50 : decode cX6_setRule 50 = .ok (.iinc 4 1, 3) := by decide +kernel
theorem dX6_setRule_53 : decode cX6_setRule 53 = .ok (.goto (-40), 3) := by decide +kernel
theorem dX6_setRule_56 : decode cX6_setRule 56 = .ok (.iload_n 3, 1) := by decide +kernel
theorem dX6_setRule_57 : decode cX6_setRule 57 = .ok (.ireturn, 1) := by decide +kernel
theorem dX6_pace_0 : decode cX6_pace 0 = .ok (.aload_n 0, 1) := by decide +kernel
theorem dX6_pace_1 : decode cX6_pace 1 = .ok (.getfield 18, 3) := by decide +kernel
theorem dX6_pace_4 : decode cX6_pace 4 = .ok (.getfield 26, 3) := by decide +kernel
theorem dX6_pace_7 : decode cX6_pace 7 = .ok (.iload_n 1, 1) := by decide +kernel
theorem dX6_pace_8 : decode cX6_pace 8 = .ok (.iaload, 1) := by decide +kernel
theorem dX6_pace_9 : decode cX6_pace 9 = .ok (.aload_n 0, 1) := by decide +kernel
theorem dX6_pace_10 : decode cX6_pace 10 = .ok (.getfield 15, 3) := by decide +kernel
theorem dX6_pace_13 : decode cX6_pace 13 = .ok (.iload_n 2, 1) := by decide +kernel
theorem dX6_pace_14 : decode cX6_pace 14 = .ok (.iaload, 1) := by decide +kernel
theorem dX6_pace_15 : decode cX6_pace 15 = .ok (.iadd, 1) := by decide +kernel
theorem dX6_pace_16 : decode cX6_pace 16 = .ok (.ireturn, 1) := by decide +kernel
theorem dX6_span_0 : decode cX6_span 0 = .ok (.iload_n 3, 1) := by decide +kernel
theorem dX6_span_1 : decode cX6_span 1 = .ok (.iconst 4, 1) := by decide +kernel
theorem dX6_span_2 : decode cX6_span 2 = .ok (.aload_n 0, 1) := by decide +kernel
theorem dX6_span_3 : decode cX6_span 3 = .ok (.getfield 18, 3) := by decide +kernel
theorem dX6_span_6 : decode cX6_span 6 = .ok (.getfield 31, 3) := by decide +kernel
theorem dX6_span_9 : decode cX6_span 9 = .ok (.iload_n 1, 1) := by decide +kernel
theorem dX6_span_10 : decode cX6_span 10 = .ok (.iaload, 1) := by decide +kernel
theorem dX6_span_11 : decode cX6_span 11 = .ok (.imul, 1) := by decide +kernel
theorem dX6_span_12 : decode cX6_span 12 = .ok (.invokestatic 34, 3) := by decide +kernel
theorem dX6_span_15 : decode cX6_span 15 = .ok (.istore 4, 2) := by decide +kernel
theorem dX6_span_17 : decode cX6_span 17 = .ok (.iload_n 3, 1) := by decide +kernel
theorem dX6_span_18 : decode cX6_span 18 = .ok (.aload_n 0, 1) := by decide +kernel
theorem dX6_span_19 : decode cX6_span 19 = .ok (.getfield 15, 3) := by decide +kernel
theorem dX6_span_22 : decode cX6_span 22 = .ok (.iload_n 2, 1) := by decide +kernel
theorem dX6_span_23 : decode cX6_span 23 = .ok (.iaload, 1) := by decide +kernel
theorem dX6_span_24 : decode cX6_span 24 = .ok (.imul, 1) := by decide +kernel
theorem dX6_span_25 : decode cX6_span 25 = .ok (.iload 4, 2) := by decide +kernel
theorem dX6_span_27 : decode cX6_span 27 = .ok (.aload_n 0, 1) := by decide +kernel
theorem dX6_span_28 : decode cX6_span 28 = .ok (.getfield 18, 3) := by decide +kernel
theorem dX6_span_31 : decode cX6_span 31 = .ok (.getfield 40, 3) := by decide +kernel
theorem dX6_span_34 : decode cX6_span 34 = .ok (.iload_n 1, 1) := by decide +kernel
theorem dX6_span_35 : decode cX6_span 35 = .ok (.iaload, 1) := by decide +kernel
theorem dX6_span_36 : decode cX6_span 36 = .ok (.imul, 1) := by decide +kernel
theorem dX6_span_37 : decode cX6_span 37 = .ok (.iadd, 1) := by decide +kernel
theorem dX6_span_38 : decode cX6_span 38 = .ok (.iload_n 3, 1) := by decide +kernel
theorem dX6_span_39 : decode cX6_span 39 = .ok (.iload 4, 2) := by decide +kernel
theorem dX6_span_41 : decode cX6_span 41 = .ok (.isub, 1) := by decide +kernel
theorem dX6_span_42 : decode cX6_span 42 = .ok (.aload_n 0, 1) := by decide +kernel
theorem dX6_span_43 : decode cX6_span 43 = .ok (.getfield 18, 3) := by decide +kernel
theorem dX6_span_46 : decode cX6_span 46 = .ok (.getfield 26, 3) := by decide +kernel
theorem dX6_span_49 : decode cX6_span 49 = .ok (.iload_n 1, 1) := by decide +kernel
theorem dX6_span_50 : decode cX6_span 50 = .ok (.iaload, 1) := by decide +kernel
theorem dX6_span_51 : decode cX6_span 51 = .ok (.imul, 1) := by decide +kernel
theorem dX6_span_52 : decode cX6_span 52 = .ok (.iadd, 1) := by decide +kernel
theorem dX6_span_53 : decode cX6_span 53 = .ok (.ireturn, 1) := by decide +kernel
theorem dX6_untilNext_0 : decode cX6_untilNext 0 = .ok (.aload_n 0, 1) := by decide +kernel
theorem dX6_untilNext_1 : decode cX6_untilNext 1 = .ok (.iload_n 2, 1) := by decide +kernel
theorem dX6_untilNext_2 : decode cX6_untilNext 2 = .ok (.iload_n 1, 1) := by decide +kernel
theorem dX6_untilNext_3 : decode cX6_untilNext 3 = .ok (.bipush 100, 2) := by decide +kernel
theorem dX6_untilNext_5 : decode cX6_untilNext 5 = .ok (.iload_n 3, 1) := by decide +kernel
theorem dX6_untilNext_6 : decode cX6_untilNext 6 = .ok (.isub, 1) := by decide +kernel
theorem dX6_untilNext_7 : decode cX6_untilNext 7 = .ok (.invokevirtual 43, 3) := by decide +kernel
theorem dX6_untilNext_10 : decode cX6_untilNext 10 = .ok (.iconst 0, 1) := by decide +kernel
theorem dX6_untilNext_11 : decode cX6_untilNext 11 = .ok (.aload_n 0, 1) := by decide +kernel
theorem dX6_untilNext_12 : decode cX6_untilNext 12 = .ok (.getfield 9, 3) := by decide +kernel
theorem dX6_untilNext_15 : decode cX6_untilNext 15 = .ok (.iconst 2, 1) := by decide +kernel
theorem dX6_untilNext_16 : decode cX6_untilNext 16 = .ok (.iaload, 1) := by decide +kernel
theorem dX6_untilNext_17 : decode cX6_untilNext 17 = .ok (.iload 4, 2) := by decide +kernel
theorem dX6_untilNext_19 : decode cX6_untilNext 19 = .ok (.iadd, 1) := by decide +kernel
theorem dX6_untilNext_20 : decode cX6_untilNext 20 = .ok (.invokestatic 47, 3) := by decide +kernel
theorem dX6_untilNext_23 : decode cX6_untilNext 23 = .ok (.iadd, 1) := by decide +kernel
theorem dX6_untilNext_24 : decode cX6_untilNext 24 = .ok (.ireturn, 1) := by decide +kernel
theorem dX6_headroom_0 : decode cX6_headroom 0 = .ok (.iconst 0, 1) := by decide +kernel
theorem dX6_headroom_1 : decode cX6_headroom 1 = .ok (.aload_n 0, 1) := by decide +kernel
theorem dX6_headroom_2 : decode cX6_headroom 2 = .ok (.getfield 9, 3) := by decide +kernel
theorem dX6_headroom_5 : decode cX6_headroom 5 = .ok (.iconst 2, 1) := by decide +kernel
theorem dX6_headroom_6 : decode cX6_headroom 6 = .ok (.iaload, 1) := by decide +kernel
theorem dX6_headroom_7 : decode cX6_headroom 7 = .ok (.iload 4, 2) := by decide +kernel
theorem dX6_headroom_9 : decode cX6_headroom 9 = .ok (.iadd, 1) := by decide +kernel
theorem dX6_headroom_10 : decode cX6_headroom 10 = .ok (.invokestatic 47, 3) := by decide +kernel
theorem dX6_headroom_13 : decode cX6_headroom 13 = .ok (.istore 6, 2) := by decide +kernel
theorem dX6_headroom_15 : decode cX6_headroom 15 = .ok (.iload 6, 2) := by decide +kernel
theorem dX6_headroom_17 : decode cX6_headroom 17 = .ok (.aload_n 0, 1) := by decide +kernel
theorem dX6_headroom_18 : decode cX6_headroom 18 = .ok (.iload_n 3, 1) := by decide +kernel
theorem dX6_headroom_19 : decode cX6_headroom 19 = .ok (.iload_n 1, 1) := by decide +kernel
theorem dX6_headroom_20 : decode cX6_headroom 20 = .ok (.iconst 1, 1) := by decide +kernel
theorem dX6_headroom_21 : decode cX6_headroom 21 = .ok (.iadd, 1) := by decide +kernel
theorem dX6_headroom_22 : decode cX6_headroom 22 = .ok (.iload 5, 2) := by decide +kernel
theorem dX6_headroom_24 : decode cX6_headroom 24 = .ok (.invokevirtual 43, 3) := by decide +kernel
theorem dX6_headroom_27 : decode cX6_headroom 27 = .ok (.iadd, 1) := by decide +kernel
theorem dX6_headroom_28 : decode cX6_headroom 28 = .ok (.iload 5, 2) := by decide +kernel
theorem dX6_headroom_30 : decode cX6_headroom 30 = .ok (.aload_n 0, 1) := by decide +kernel
theorem dX6_headroom_31 : decode cX6_headroom 31 = .ok (.getfield 9, 3) := by decide +kernel
theorem dX6_headroom_34 : decode cX6_headroom 34 = .ok (.iconst 1, 1) := by decide +kernel
theorem dX6_headroom_35 : decode cX6_headroom 35 = .ok (.iaload, 1) := by decide +kernel
theorem dX6_headroom_36 : decode cX6_headroom 36 = .ok (.isub, 1) := by decide +kernel
theorem dX6_headroom_37 : decode cX6_headroom 37 = .ok (.aload_n 0, 1) := by decide +kernel
theorem dX6_headroom_38 : decode cX6_headroom 38 = .ok (.iload_n 2, 1) := by decide +kernel
theorem dX6_headroom_39 : decode cX6_headroom 39 = .ok (.iload_n 1, 1) := by decide +kernel
theorem dX6_headroom_40 : decode cX6_headroom 40 = .ok (.invokevirtual 50, 3) := by decide +kernel
theorem dX6_headroom_43 : decode cX6_headroom 43 = .ok (.imul, 1) := by decide +kernel
theorem dX6_headroom_44 : decode cX6_headroom 44 = .ok (.isub, 1) := by decide +kernel
theorem dX6_headroom_45 : decode cX6_headroom 45 = .ok (.ireturn, 1) := by decide +kernel
theorem dX6_meeting_0 : decode cX6_meeting 0 = .ok (.iload 4, 2) := by decide +kernel
theorem dX6_meeting_2 : decode cX6_meeting 2 = .ok (.aload_n 0, 1) := by decide +kernel
theorem dX6_meeting_3 : decode cX6_meeting 3 = .ok (.iload_n 2, 1) := by decide +kernel
theorem dX6_meeting_4 : decode cX6_meeting 4 = .ok (.iload_n 1, 1) := by decide +kernel
theorem dX6_meeting_5 : decode cX6_meeting 5 = .ok (.invokevirtual 50, 3) := by decide +kernel
theorem dX6_meeting_8 : decode cX6_meeting 8 = .ok (.imul, 1) := by decide +kernel
theorem dX6_meeting_9 : decode cX6_meeting 9 = .ok (.istore 6, 2) := by decide +kernel
theorem dX6_meeting_11 : decode cX6_meeting 11 = .ok (.iconst 0, 1) := by decide +kernel
theorem dX6_meeting_12 : decode cX6_meeting 12 = .ok (.istore 7, 2) := by decide +kernel
theorem dX6_meeting_14 : decode cX6_meeting 14 = .ok (.iload 7, 2) := by decide +kernel
theorem dX6_meeting_16 : decode cX6_meeting 16 = .ok (.aload_n 0, 1) := by decide +kernel
theorem dX6_meeting_17 : decode cX6_meeting 17 = .ok (.getfield 9, 3) := by decide +kernel
theorem dX6_meeting_20 : decode cX6_meeting 20 = .ok (.iconst 0, 1) := by decide +kernel
theorem dX6_meeting_21 : decode cX6_meeting 21 = .ok (.iaload, 1) := by decide +kernel
theorem dX6_meeting_22 : decode cX6_meeting 22 = .ok (.if_icmp .gt 28, 3) := by decide +kernel
theorem dX6_meeting_25 : decode cX6_meeting 25 = .ok (.aload_n 0, 1) := by decide +kernel
theorem dX6_meeting_26 : decode cX6_meeting 26 = .ok (.iload_n 1, 1) := by decide +kernel
theorem dX6_meeting_27 : decode cX6_meeting 27 = .ok (.iload_n 2, 1) := by decide +kernel
theorem dX6_meeting_28 : decode cX6_meeting 28 = .ok (.iload_n 3, 1) := by decide +kernel
theorem dX6_meeting_29 : decode cX6_meeting 29 = .ok (.iload 5, 2) := by decide +kernel
theorem dX6_meeting_31 : decode cX6_meeting 31 = .ok (.iload 7, 2) := by decide +kernel
theorem dX6_meeting_33 : decode cX6_meeting 33 = .ok (.invokevirtual 53, 3) := by decide +kernel
theorem dX6_meeting_36 : decode cX6_meeting 36 = .ok (.iload 6, 2) := by decide +kernel
theorem dX6_meeting_38 : decode cX6_meeting 38 = .ok (.if_icmp .lt 6, 3) := by decide +kernel
theorem dX6_meeting_41 : decode cX6_meeting 41 = .ok (.iload 7, 2) := by decide +kernel
theorem dX6_meeting_43 : decode cX6_meeting 43 = .ok (.ireturn, 1) := by decide +kernel
theorem dX6_meeting_44 : decode cX6_meeting 44 = .ok (.iinc 7 1, 3) := by decide +kernel
theorem dX6_meeting_47 : decode cX6_meeting 47 = .ok (.goto (-33), 3) := by decide +kernel
theorem dX6_meeting_50 : decode cX6_meeting 50 = .ok (.iconst (-1), 1) := by decide +kernel
theorem dX6_meeting_51 : decode cX6_meeting 51 = .ok (.ireturn, 1) := by decide +kernel
theorem dX6_farthest_0 : decode cX6_farthest 0 = .ok (.aload_n 0, 1) := by decide +kernel
theorem dX6_farthest_1 : decode cX6_farthest 1 = .ok (.iload_n 2, 1) := by decide +kernel
theorem dX6_farthest_2 : decode cX6_farthest 2 = .ok (.iload_n 1, 1) := by decide +kernel
theorem dX6_farthest_3 : decode cX6_farthest 3 = .ok (.invokevirtual 50, 3) := by decide +kernel
theorem dX6_farthest_6 : decode cX6_farthest 6 = .ok (.istore 5, 2) := by decide +kernel
theorem dX6_farthest_8 : decode cX6_farthest 8 = .ok (.iload 5, 2) := by decide +kernel
theorem dX6_farthest_10 : decode cX6_farthest 10 = .ok (.iconst 1, 1) := by decide +kernel
theorem dX6_farthest_11 : decode cX6_farthest 11 = .ok (.if_icmp .ge 5, 3) := by decide +kernel
theorem dX6_farthest_14 : decode cX6_farthest 14 = .ok (.iconst (-1), 1) := by decide +kernel
theorem dX6_farthest_15 : decode cX6_farthest 15 = .ok (.ireturn, 1) := by decide +kernel
theorem dX6_farthest_16 : decode cX6_farthest 16 = .ok (.iconst 0, 1) := by decide +kernel
theorem dX6_farthest_17 : decode cX6_farthest 17 = .ok (.istore 6, 2) := by decide +kernel
theorem dX6_farthest_19 : decode cX6_farthest 19 = .ok (.iconst 0, 1) := by decide +kernel
theorem dX6_farthest_20 : decode cX6_farthest 20 = .ok (.istore 7, 2) := by decide +kernel
theorem dX6_farthest_22 : decode cX6_farthest 22 = .ok (.iload 7, 2) := by decide +kernel
theorem dX6_farthest_24 : decode cX6_farthest 24 = .ok (.aload_n 0, 1) := by decide +kernel
theorem dX6_farthest_25 : decode cX6_farthest 25 = .ok (.getfield 9, 3) := by decide +kernel
theorem dX6_farthest_28 : decode cX6_farthest 28 = .ok (.iconst 0, 1) := by decide +kernel
theorem dX6_farthest_29 : decode cX6_farthest 29 = .ok (.iaload, 1) := by decide +kernel
theorem dX6_farthest_30 : decode cX6_farthest 30 = .ok (.if_icmp .gt 27, 3) := by decide +kernel
theorem dX6_farthest_33 : decode cX6_farthest 33 = .ok (.iload 6, 2) := by decide +kernel
theorem dX6_farthest_35 : decode cX6_farthest 35 = .ok (.aload_n 0, 1) := by decide +kernel
theorem dX6_farthest_36 : decode cX6_farthest 36 = .ok (.iload_n 1, 1) := by decide +kernel
theorem dX6_farthest_37 : decode cX6_farthest 37 = .ok (.iload_n 2, 1) := by decide +kernel
theorem dX6_farthest_38 : decode cX6_farthest 38 = .ok (.iload_n 3, 1) := by decide +kernel
theorem dX6_farthest_39 : decode cX6_farthest 39 = .ok (.iload 4, 2) := by decide +kernel
theorem dX6_farthest_41 : decode cX6_farthest 41 = .ok (.iload 7, 2) := by decide +kernel
theorem dX6_farthest_43 : decode cX6_farthest 43 = .ok (.invokevirtual 53, 3) := by decide +kernel
theorem dX6_farthest_46 : decode cX6_farthest 46 = .ok (.invokestatic 47, 3) := by decide +kernel
theorem dX6_farthest_49 : decode cX6_farthest 49 = .ok (.istore 6, 2) := by decide +kernel
theorem dX6_farthest_51 : decode cX6_farthest 51 = .ok (.iinc 7 1, 3) := by decide +kernel
theorem dX6_farthest_54 : decode cX6_farthest 54 = .ok (.goto (-32), 3) := by decide +kernel
theorem dX6_farthest_57 : decode cX6_farthest 57 = .ok (.bipush 40, 2) := by decide +kernel
theorem dX6_farthest_59 : decode cX6_farthest 59 = .ok (.iload 6, 2) := by decide +kernel
theorem dX6_farthest_61 : decode cX6_farthest 61 = .ok (.iload 5, 2) := by decide +kernel
theorem dX6_farthest_63 : decode cX6_farthest 63 = .ok (.idiv, 1) := by decide +kernel
theorem dX6_farthest_64 : decode cX6_farthest 64 = .ok (.invokestatic 34, 3) := by decide +kernel
theorem dX6_farthest_67 : decode cX6_farthest 67 = .ok (.ireturn, 1) := by decide +kernel
theorem dX6_leg_0 : decode cX6_leg 0 = .ok (.aload_n 0, 1) := by decide +kernel
theorem dX6_leg_1 : decode cX6_leg 1 = .ok (.iload_n 1, 1) := by decide +kernel
theorem dX6_leg_2 : decode cX6_leg 2 = .ok (.iload_n 2, 1) := by decide +kernel
theorem dX6_leg_3 : decode cX6_leg 3 = .ok (.iload_n 3, 1) := by decide +kernel
theorem dX6_leg_4 : decode cX6_leg 4 = .ok (.iload 4, 2) := by decide +kernel
theorem dX6_leg_6 : decode cX6_leg 6 = .ok (.iload 5, 2) := by decide +kernel
theorem dX6_leg_8 : decode cX6_leg 8 = .ok (.invokevirtual 57, 3) := by decide +kernel
theorem dX6_leg_11 : decode cX6_leg 11 = .ok (.istore 6, 2) := by decide +kernel
theorem dX6_leg_13 : decode cX6_leg 13 = .ok (.iload 6, 2) := by decide +kernel
theorem dX6_leg_15 : decode cX6_leg 15 = .ok (.iconst (-1), 1) := by decide +kernel
theorem dX6_leg_16 : decode cX6_leg 16 = .ok (.if_icmp .ne 5, 3) := by decide +kernel
theorem dX6_leg_19 : decode cX6_leg 19 = .ok (.iconst (-1), 1) := by decide +kernel
theorem dX6_leg_20 : decode cX6_leg 20 = .ok (.ireturn, 1) := by decide +kernel
theorem dX6_leg_21 : decode cX6_leg 21 = .ok (.aload_n 0, 1) := by decide +kernel
theorem dX6_leg_22 : decode cX6_leg 22 = .ok (.iload_n 1, 1) := by decide +kernel
theorem dX6_leg_23 : decode cX6_leg 23 = .ok (.iload_n 2, 1) := by decide +kernel
theorem dX6_leg_24 : decode cX6_leg 24 = .ok (.iload 4, 2) := by decide +kernel
theorem dX6_leg_26 : decode cX6_leg 26 = .ok (.iload 5, 2) := by decide +kernel
theorem dX6_leg_28 : decode cX6_leg 28 = .ok (.invokevirtual 60, 3) := by decide +kernel
theorem dX6_leg_31 : decode cX6_leg 31 = .ok (.iload 6, 2) := by decide +kernel
theorem dX6_leg_33 : decode cX6_leg 33 = .ok (.ifCond .ne 12, 3) := by decide +kernel
theorem dX6_leg_36 : decode cX6_leg 36 = .ok (.aload_n 0, 1) := by decide +kernel
theorem dX6_leg_37 : decode cX6_leg 37 = .ok (.getfield 9, 3) := by decide +kernel
theorem dX6_leg_40 : decode cX6_leg 40 = .ok (.iconst 5, 1) := by decide +kernel
theorem dX6_leg_41 : decode cX6_leg 41 = .ok (.iaload, 1) := by decide +kernel
theorem dX6_leg_42 : decode cX6_leg 42 = .ok (.goto 4, 3) := by decide +kernel
theorem dX6_leg_45 : decode cX6_leg 45 = .ok (.iconst 0, 1) := by decide +kernel
theorem dX6_leg_46 : decode cX6_leg 46 = .ok (.iadd, 1) := by decide +kernel
theorem dX6_leg_47 : decode cX6_leg 47 = .ok (.ireturn, 1) := by decide +kernel
theorem dX6_kindOf_0 : decode cX6_kindOf 0 = .ok (.iload_n 1, 1) := by decide +kernel
theorem dX6_kindOf_1 : decode cX6_kindOf 1 = .ok (.iconst (-1), 1) := by decide +kernel
theorem dX6_kindOf_2 : decode cX6_kindOf 2 = .ok (.if_icmp .ne 5, 3) := by decide +kernel
theorem dX6_kindOf_5 : decode cX6_kindOf 5 = .ok (.iconst 3, 1) := by decide +kernel
theorem dX6_kindOf_6 : decode cX6_kindOf 6 = .ok (.ireturn, 1) := by decide +kernel
theorem dX6_kindOf_7 : decode cX6_kindOf 7 = .ok (.iload_n 1, 1) := by decide +kernel
theorem dX6_kindOf_8 : decode cX6_kindOf 8 = .ok (.ifCond .ne 5, 3) := by decide +kernel
theorem dX6_kindOf_11 : decode cX6_kindOf 11 = .ok (.iconst 2, 1) := by decide +kernel
theorem dX6_kindOf_12 : decode cX6_kindOf 12 = .ok (.ireturn, 1) := by decide +kernel
theorem dX6_kindOf_13 : decode cX6_kindOf 13 = .ok (.iload_n 1, 1) := by decide +kernel
theorem dX6_kindOf_14 : decode cX6_kindOf 14 = .ok (.aload_n 0, 1) := by decide +kernel
theorem dX6_kindOf_15 : decode cX6_kindOf 15 = .ok (.getfield 9, 3) := by decide +kernel
theorem dX6_kindOf_18 : decode cX6_kindOf 18 = .ok (.iconst 0, 1) := by decide +kernel
theorem dX6_kindOf_19 : decode cX6_kindOf 19 = .ok (.iaload, 1) := by decide +kernel
theorem dX6_kindOf_20 : decode cX6_kindOf 20 = .ok (.iconst 2, 1) := by decide +kernel
theorem dX6_kindOf_21 : decode cX6_kindOf 21 = .ok (.isub, 1) := by decide +kernel
theorem dX6_kindOf_22 : decode cX6_kindOf 22 = .ok (.if_icmp .lt 7, 3) := by decide +kernel
theorem dX6_kindOf_25 : decode cX6_kindOf 25 = .ok (.iconst 1, 1) := by decide +kernel
theorem dX6_kindOf_26 : decode cX6_kindOf 26 = .ok (.goto 4, 3) := by decide +kernel
theorem dX6_kindOf_29 : decode cX6_kindOf 29 = .ok (.iconst 0, 1) := by decide +kernel
theorem dX6_kindOf_30 : decode cX6_kindOf 30 = .ok (.ireturn, 1) := by decide +kernel
theorem dX7_init_0 : decode cX7_init 0 = .ok (.aload_n 0, 1) := by decide +kernel
theorem dX7_init_1 : decode cX7_init 1 = .ok (.invokespecial 1, 3) := by decide +kernel
theorem dX7_init_4 : decode cX7_init 4 = .ok (.aload_n 0, 1) := by decide +kernel
theorem dX7_init_5 : decode cX7_init 5 = .ok (.new 7, 3) := by decide +kernel
theorem dX7_init_8 : decode cX7_init 8 = .ok (.dup, 1) := by decide +kernel
theorem dX7_init_9 : decode cX7_init 9 = .ok (.invokespecial 9, 3) := by decide +kernel
theorem dX7_init_12 : decode cX7_init 12 = .ok (.putfield 10, 3) := by decide +kernel
theorem dX7_init_15 : decode cX7_init 15 = .ok (.aload_n 0, 1) := by decide +kernel
theorem dX7_init_16 : decode cX7_init 16 = .ok (.new 16, 3) := by decide +kernel
theorem dX7_init_19 : decode cX7_init 19 = .ok (.dup, 1) := by decide +kernel
theorem dX7_init_20 : decode cX7_init 20 = .ok (.aload_n 0, 1) := by decide +kernel
theorem dX7_init_21 : decode cX7_init 21 = .ok (.getfield 10, 3) := by decide +kernel
theorem dX7_init_24 : decode cX7_init 24 = .ok (.invokespecial 18, 3) := by decide +kernel
theorem dX7_init_27 : decode cX7_init 27 = .ok (.putfield 21, 3) := by decide +kernel
theorem dX7_init_30 : decode cX7_init 30 = .ok (.aload_n 0, 1) := by decide +kernel
theorem dX7_init_31 : decode cX7_init 31 = .ok (.new 25, 3) := by decide +kernel
theorem dX7_init_34 : decode cX7_init 34 = .ok (.dup, 1) := by decide +kernel
theorem dX7_init_35 : decode cX7_init 35 = .ok (.aload_n 0, 1) := by decide +kernel
theorem dX7_init_36 : decode cX7_init 36 = .ok (.getfield 10, 3) := by decide +kernel
theorem dX7_init_39 : decode cX7_init 39 = .ok (.aload_n 0, 1) := by decide +kernel
theorem dX7_init_40 : decode cX7_init 40 = .ok (.getfield 21, 3) := by decide +kernel
theorem dX7_init_43 : decode cX7_init 43 = .ok (.invokespecial 27, 3) := by decide +kernel
theorem dX7_init_46 : decode cX7_init 46 = .ok (.putfield 30, 3) := by decide +kernel
theorem dX7_init_49 : decode cX7_init 49 = .ok (.aload_n 0, 1) := by decide +kernel
theorem dX7_init_50 : decode cX7_init 50 = .ok (.new 34, 3) := by decide +kernel
theorem dX7_init_53 : decode cX7_init 53 = .ok (.dup, 1) := by decide +kernel
theorem dX7_init_54 : decode cX7_init 54 = .ok (.aload_n 0, 1) := by decide +kernel
theorem dX7_init_55 : decode cX7_init 55 = .ok (.getfield 21, 3) := by decide +kernel
theorem dX7_init_58 : decode cX7_init 58 = .ok (.aload_n 0, 1) := by decide +kernel
theorem dX7_init_59 : decode cX7_init 59 = .ok (.getfield 30, 3) := by decide +kernel
theorem dX7_init_62 : decode cX7_init 62 = .ok (.invokespecial 36, 3) := by decide +kernel
theorem dX7_init_65 : decode cX7_init 65 = .ok (.putfield 39, 3) := by decide +kernel
theorem dX7_init_68 : decode cX7_init 68 = .ok (.aload_n 0, 1) := by decide +kernel
theorem dX7_init_69 : decode cX7_init 69 = .ok (.new 43, 3) := by decide +kernel
theorem dX7_init_72 : decode cX7_init 72 = .ok (.dup, 1) := by decide +kernel
theorem dX7_init_73 : decode cX7_init 73 = .ok (.aload_n 0, 1) := by decide +kernel
theorem dX7_init_74 : decode cX7_init 74 = .ok (.getfield 10, 3) := by decide +kernel
theorem dX7_init_77 : decode cX7_init 77 = .ok (.aload_n 0, 1) := by decide +kernel
theorem dX7_init_78 : decode cX7_init 78 = .ok (.getfield 21, 3) := by decide +kernel
theorem dX7_init_81 : decode cX7_init 81 = .ok (.invokespecial 45, 3) := by decide +kernel
theorem dX7_init_84 : decode cX7_init 84 = .ok (.putfield 46, 3) := by decide +kernel
theorem dX7_init_87 : decode cX7_init 87 = .ok (.aload_n 0, 1) := by decide +kernel
theorem dX7_init_88 : decode cX7_init 88 = .ok (.new 50, 3) := by decide +kernel
theorem dX7_init_91 : decode cX7_init 91 = .ok (.dup, 1) := by decide +kernel
theorem dX7_init_92 : decode cX7_init 92 = .ok (.invokespecial 52, 3) := by decide +kernel
theorem dX7_init_95 : decode cX7_init 95 = .ok (.putfield 53, 3) := by decide +kernel
theorem dX7_init_98 : decode cX7_init 98 = .ok (.aload_n 0, 1) := by decide +kernel
theorem dX7_init_99 : decode cX7_init 99 = .ok (.new 57, 3) := by decide +kernel
theorem dX7_init_102 : decode cX7_init 102 = .ok (.dup, 1) := by decide +kernel
theorem dX7_init_103 : decode cX7_init 103 = .ok (.invokespecial 59, 3) := by decide +kernel
theorem dX7_init_106 : decode cX7_init 106 = .ok (.putfield 60, 3) := by decide +kernel
theorem dX7_init_109 : decode cX7_init 109 = .ok (.return_, 1) := by decide +kernel
theorem dX7_type_0 : decode cX7_type 0 = .ok (.iload_n 1, 1) := by decide +kernel
theorem dX7_type_1 : decode cX7_type 1 = .ok (.iconst 0, 1) := by decide +kernel
theorem dX7_type_2 : decode cX7_type 2 = .ok (.sipush 255, 3) := by decide +kernel
theorem dX7_type_5 : decode cX7_type 5 = .ok (.invokestatic 64, 3) := by decide +kernel
theorem dX7_type_8 : decode cX7_type 8 = .ok (.ifCond .eq 6, 3) := by decide +kernel
theorem dX7_type_11 : decode cX7_type 11 = .ok (.bipush (-2), 2) := by decide +kernel
theorem dX7_type_13 : decode cX7_type 13 = .ok (.ireturn, 1) := by decide +kernel
theorem dX7_type_14 : decode cX7_type 14 = .ok (.aload_n 0, 1) := by decide +kernel
theorem dX7_type_15 : decode cX7_type 15 = .ok (.getfield 10, 3) := by decide +kernel
theorem dX7_type_18 : decode cX7_type 18 = .ok (.iload_n 1, 1) := by decide +kernel
theorem dX7_type_19 : decode cX7_type 19 = .ok (.invokevirtual 68, 3) := by decide +kernel
theorem dX7_type_22 : decode cX7_type 22 = .ok (.ifCond .eq 13, 3) := by decide +kernel
theorem dX7_type_25 : decode cX7_type 25 = .ok (.aload_n 0, 1) := by decide +kernel
theorem dX7_type_26 : decode cX7_type 26 = .ok (.getfield 10, 3) := by decide +kernel
theorem dX7_type_29 : decode cX7_type 29 = .ok (.getfield 72, 3) := by decide +kernel
theorem dX7_type_32 : decode cX7_type 32 = .ok (.goto 5, 3) := by decide +kernel
theorem dX7_type_35 : decode cX7_type 35 = .ok (.bipush (-4), 2) := by decide +kernel
theorem dX7_type_37 : decode cX7_type 37 = .ok (.ireturn, 1) := by decide +kernel
theorem dX7_wipe_0 : decode cX7_wipe 0 = .ok (.aload_n 0, 1) := by decide +kernel
theorem dX7_wipe_1 : decode cX7_wipe 1 = .ok (.getfield 10, 3) := by decide +kernel
theorem dX7_wipe_4 : decode cX7_wipe 4 = .ok (.invokevirtual 76, 3) := by decide +kernel
theorem dX7_wipe_7 : decode cX7_wipe 7 = .ok (.ireturn, 1) := by decide +kernel
theorem dX7_undo_0 : decode cX7_undo 0 = .ok (.aload_n 0, 1) := by decide +kernel
theorem dX7_undo_1 : decode cX7_undo 1 = .ok (.getfield 10, 3) := by decide +kernel
theorem dX7_undo_4 : decode cX7_undo 4 = .ok (.invokevirtual 80, 3) := by decide +kernel
theorem dX7_undo_7 : decode cX7_undo 7 = .ok (.ifCond .eq 13, 3) := by decide +kernel
theorem dX7_undo_10 : decode cX7_undo 10 = .ok (.aload_n 0, 1) := by decide +kernel
theorem dX7_undo_11 : decode cX7_undo 11 = .ok (.getfield 10, 3) := by decide +kernel
theorem dX7_undo_14 : decode cX7_undo 14 = .ok (.getfield 72, 3) := by decide +kernel
theorem dX7_undo_17 : decode cX7_undo 17 = .ok (.goto 5, 3) := by decide +kernel
theorem dX7_undo_20 : decode cX7_undo 20 = .ok (.bipush (-3), 2) := by decide +kernel
theorem dX7_undo_22 : decode cX7_undo 22 = .ok (.ireturn, 1) := by decide +kernel
theorem dX7_fault_0 : decode cX7_fault 0 = .ok (.aload_n 0, 1) := by decide +kernel
theorem dX7_fault_1 : decode cX7_fault 1 = .ok (.getfield 10, 3) := by decide +kernel
theorem dX7_fault_4 : decode cX7_fault 4 = .ok (.getfield 84, 3) := by decide +kernel
theorem dX7_fault_7 : decode cX7_fault 7 = .ok (.ireturn, 1) := by decide +kernel
theorem dX7_runner_0 : decode cX7_runner 0 = .ok (.aload_n 0, 1) := by decide +kernel
theorem dX7_runner_1 : decode cX7_runner 1 = .ok (.iload_n 1, 1) := by decide +kernel
theorem dX7_runner_2 : decode cX7_runner 2 = .ok (.invokevirtual 87, 3) := by decide +kernel
theorem dX7_runner_5 : decode cX7_runner 5 = .ok (.ifCond .ne 12, 3) := by decide +kernel
theorem dX7_runner_8 : decode cX7_runner 8 = .ok (.iload_n 2, 1) := by decide +kernel
theorem dX7_runner_9 : decode cX7_runner 9 = .ok (.iconst 0, 1) := by decide +kernel
theorem dX7_runner_10 : decode cX7_runner 10 = .ok (.iconst 3, 1) := by decide +kernel
theorem dX7_runner_11 : decode cX7_runner 11 = .ok (.invokestatic 64, 3) := by decide +kernel
theorem dX7_runner_14 : decode cX7_runner 14 = .ok (.ifCond .eq 6, 3) := by decide +kernel
theorem dX7_runner_17 : decode cX7_runner 17 = .ok (.bipush (-2), 2) := by decide +kernel
theorem dX7_runner_19 : decode cX7_runner 19 = .ok (.ireturn, 1) := by decide +kernel
theorem dX7_runner_20 : decode cX7_runner 20 = .ok (.aload_n 0, 1) := by decide +kernel
theorem dX7_runner_21 : decode cX7_runner 21 = .ok (.getfield 10, 3) := by decide +kernel
theorem dX7_runner_24 : decode cX7_runner 24 = .ok (.iload_n 1, 1) := by decide +kernel
theorem dX7_runner_25 : decode cX7_runner 25 = .ok (.iload_n 2, 1) := by decide +kernel
theorem dX7_runner_26 : decode cX7_runner 26 = .ok (.invokevirtual 90, 3) := by decide +kernel
theorem dX7_runner_29 : decode cX7_runner 29 = .ok (.ireturn, 1) := by decide +kernel
theorem dX7_runs_0 : decode cX7_runs 0 = .ok (.iload_n 1, 1) := by decide +kernel
theorem dX7_runs_1 : decode cX7_runs 1 = .ok (.invokestatic 94, 3) := by decide +kernel
theorem dX7_runs_4 : decode cX7_runs 4 = .ok (.ifCond .ne 12, 3) := by decide +kernel
theorem dX7_runs_7 : decode cX7_runs 7 = .ok (.iload_n 2, 1) := by decide +kernel
theorem dX7_runs_8 : decode cX7_runs 8 = .ok (.iconst 0, 1) := by decide +kernel
theorem dX7_runs_9 : decode cX7_runs 9 = .ok (.iconst 4, 1) := by decide +kernel
theorem dX7_runs_10 : decode cX7_runs 10 = .ok (.invokestatic 64, 3) := by decide +kernel
theorem dX7_runs_13 : decode cX7_runs 13 = .ok (.ifCond .eq 6, 3) := by decide +kernel
theorem dX7_runs_16 : decode cX7_runs 16 = .ok (.bipush (-2), 2) := by decide +kernel
theorem dX7_runs_18 : decode cX7_runs 18 = .ok (.ireturn, 1) := by decide +kernel
theorem dX7_runs_19 : decode cX7_runs 19 = .ok (.aload_n 0, 1) := by decide +kernel
theorem dX7_runs_20 : decode cX7_runs 20 = .ok (.getfield 30, 3) := by decide +kernel
theorem dX7_runs_23 : decode cX7_runs 23 = .ok (.getfield 97, 3) := by decide +kernel
theorem dX7_runs_26 : decode cX7_runs 26 = .ok (.iload_n 1, 1) := by decide +kernel
theorem dX7_runs_27 : decode cX7_runs 27 = .ok (.iload_n 2, 1) := by decide +kernel
theorem dX7_runs_28 : decode cX7_runs 28 = .ok (.invokestatic 101, 3) := by decide +kernel
theorem dX7_runs_31 : decode cX7_runs 31 = .ok (.ireturn, 1) := by decide +kernel
theorem dX7_set_0 : decode cX7_set 0 = .ok (.iload_n 1, 1) := by decide +kernel
theorem dX7_set_1 : decode cX7_set 1 = .ok (.iconst 0, 1) := by decide +kernel
theorem dX7_set_2 : decode cX7_set 2 = .ok (.bipush 6, 2) := by decide +kernel
theorem dX7_set_4 : decode cX7_set 4 = .ok (.invokestatic 64, 3) := by decide +kernel
theorem dX7_set_7 : decode cX7_set 7 = .ok (.ifCond .ne 20, 3) := by decide +kernel
theorem dX7_set_10 : decode cX7_set 10 = .ok (.iload_n 2, 1) := by decide +kernel
theorem dX7_set_11 : decode cX7_set 11 = .ok (.getstatic 105, 3) := by decide +kernel
theorem dX7_set_14 : decode cX7_set 14 = .ok (.iload_n 1, 1) := by decide +kernel
theorem dX7_set_15 : decode cX7_set 15 = .ok (.iaload, 1) := by decide +kernel
theorem dX7_set_16 : decode cX7_set 16 = .ok (.getstatic 108, 3) := by decide +kernel
theorem dX7_set_19 : decode cX7_set 19 = .ok (.iload_n 1, 1) := by decide +kernel
theorem dX7_set_20 : decode cX7_set 20 = .ok (.iaload, 1) := by decide +kernel
theorem dX7_set_21 : decode cX7_set 21 = .ok (.invokestatic 64, 3) := by decide +kernel
theorem dX7_set_24 : decode cX7_set 24 = .ok (.ifCond .eq 6, 3) := by decide +kernel
theorem dX7_set_27 : decode cX7_set 27 = .ok (.bipush (-2), 2) := by decide +kernel
theorem dX7_set_29 : decode cX7_set 29 = .ok (.ireturn, 1) := by decide +kernel
theorem dX7_set_30 : decode cX7_set 30 = .ok (.aload_n 0, 1) := by decide +kernel
theorem dX7_set_31 : decode cX7_set 31 = .ok (.getfield 21, 3) := by decide +kernel
theorem dX7_set_34 : decode cX7_set 34 = .ok (.iload_n 1, 1) := by decide +kernel
theorem dX7_set_35 : decode cX7_set 35 = .ok (.iload_n 2, 1) := by decide +kernel
theorem dX7_set_36 : decode cX7_set 36 = .ok (.invokevirtual 111, 3) := by decide +kernel
theorem dX7_set_39 : decode cX7_set 39 = .ok (.ireturn, 1) := by decide +kernel
theorem dX7_mark_0 : decode cX7_mark 0 = .ok (.iload_n 1, 1) := by decide +kernel
theorem dX7_mark_1 : decode cX7_mark 1 = .ok (.invokestatic 114, 3) := by decide +kernel
theorem dX7_mark_4 : decode cX7_mark 4 = .ok (.ifCond .ne 10, 3) := by decide +kernel
theorem dX7_mark_7 : decode cX7_mark 7 = .ok (.iload_n 2, 1) := by decide +kernel
theorem dX7_mark_8 : decode cX7_mark 8 = .ok (.invokestatic 117, 3) := by decide +kernel
theorem dX7_mark_11 : decode cX7_mark 11 = .ok (.ifCond .eq 6, 3) := by decide +kernel
theorem dX7_mark_14 : decode cX7_mark 14 = .ok (.bipush (-2), 2) := by decide +kernel
theorem dX7_mark_16 : decode cX7_mark 16 = .ok (.ireturn, 1) := by decide +kernel
theorem dX7_mark_17 : decode cX7_mark 17 = .ok (.aload_n 0, 1) := by decide +kernel
theorem dX7_mark_18 : decode cX7_mark 18 = .ok (.getfield 30, 3) := by decide +kernel
theorem dX7_mark_21 : decode cX7_mark 21 = .ok (.getfield 120, 3) := by decide +kernel
theorem dX7_mark_24 : decode cX7_mark 24 = .ok (.iload_n 1, 1) := by decide +kernel
theorem dX7_mark_25 : decode cX7_mark 25 = .ok (.iload_n 2, 1) := by decide +kernel
theorem dX7_mark_26 : decode cX7_mark 26 = .ok (.invokestatic 101, 3) := by decide +kernel
theorem dX7_mark_29 : decode cX7_mark 29 = .ok (.ireturn, 1) := by decide +kernel
theorem dX7_slip_0 : decode cX7_slip 0 = .ok (.iload_n 1, 1) := by decide +kernel
theorem dX7_slip_1 : decode cX7_slip 1 = .ok (.invokestatic 114, 3) := by decide +kernel
theorem dX7_slip_4 : decode cX7_slip 4 = .ok (.ifCond .ne 14, 3) := by decide +kernel
theorem dX7_slip_7 : decode cX7_slip 7 = .ok (.iload_n 2, 1) := by decide +kernel
theorem dX7_slip_8 : decode cX7_slip 8 = .ok (.bipush (-60), 2) := by decide +kernel
theorem dX7_slip_10 : decode cX7_slip 10 = .ok (.bipush 60, 2) := by decide +kernel
theorem dX7_slip_12 : decode cX7_slip 12 = .ok (.invokestatic 64, 3) := by decide +kernel
theorem dX7_slip_15 : decode cX7_slip 15 = .ok (.ifCond .eq 7, 3) := by decide +kernel
theorem dX7_slip_18 : decode cX7_slip 18 = .ok (.sipush (-1002), 3) := by decide +kernel
theorem dX7_slip_21 : decode cX7_slip 21 = .ok (.ireturn, 1) := by decide +kernel
theorem dX7_slip_22 : decode cX7_slip 22 = .ok (.aload_n 0, 1) := by decide +kernel
theorem dX7_slip_23 : decode cX7_slip 23 = .ok (.getfield 30, 3) := by decide +kernel
theorem dX7_slip_26 : decode cX7_slip 26 = .ok (.getfield 123, 3) := by decide +kernel
theorem dX7_slip_29 : decode cX7_slip 29 = .ok (.iload_n 1, 1) := by decide +kernel
theorem dX7_slip_30 : decode cX7_slip 30 = .ok (.iload_n 2, 1) := by decide +kernel
theorem dX7_slip_31 : decode cX7_slip 31 = .ok (.invokestatic 101, 3) := by decide +kernel
theorem dX7_slip_34 : decode cX7_slip 34 = .ok (.ireturn, 1) := by decide +kernel
theorem dX7_read_0 : decode cX7_read 0 = .ok (.iload_n 1, 1) := by decide +kernel
theorem dX7_read_1 : decode cX7_read 1 = .ok (.invokestatic 126, 3) := by decide +kernel
theorem dX7_read_4 : decode cX7_read 4 = .ok (.ifCond .eq 6, 3) := by decide +kernel
theorem dX7_read_7 : decode cX7_read 7 = .ok (.bipush (-2), 2) := by decide +kernel
theorem dX7_read_9 : decode cX7_read 9 = .ok (.ireturn, 1) := by decide +kernel
theorem dX7_read_10 : decode cX7_read 10 = .ok (.aload_n 0, 1) := by decide +kernel
theorem dX7_read_11 : decode cX7_read 11 = .ok (.getfield 60, 3) := by decide +kernel
theorem dX7_read_14 : decode cX7_read 14 = .ok (.iload_n 1, 1) := by decide +kernel
theorem dX7_read_15 : decode cX7_read 15 = .ok (.invokevirtual 129, 3) := by decide +kernel
theorem dX7_read_18 : decode cX7_read 18 = .ok (.ifCond .eq 12, 3) := by decide +kernel
theorem dX7_read_21 : decode cX7_read 21 = .ok (.aload_n 0, 1) := by decide +kernel
theorem dX7_read_22 : decode cX7_read 22 = .ok (.getfield 60, 3) := by decide +kernel
theorem dX7_read_25 : decode cX7_read 25 = .ok (.iconst 1, 1) := by decide +kernel
theorem dX7_read_26 : decode cX7_read 26 = .ok (.invokevirtual 132, 3) := by decide +kernel
theorem dX7_read_29 : decode cX7_read 29 = .ok (.ireturn, 1) := by decide +kernel
theorem dX7_read_30 : decode cX7_read 30 = .ok (.iconst 3, 1) := by decide +kernel
theorem dX7_read_31 : decode cX7_read 31 = .ok (.aload_n 0, 1) := by decide +kernel
theorem dX7_read_32 : decode cX7_read 32 = .ok (.getfield 60, 3) := by decide +kernel
theorem dX7_read_35 : decode cX7_read 35 = .ok (.getfield 136, 3) := by decide +kernel
theorem dX7_read_38 : decode cX7_read 38 = .ok (.iload_n 1, 1) := by decide +kernel
theorem dX7_read_39 : decode cX7_read 39 = .ok (.iaload, 1) := by decide +kernel
theorem dX7_read_40 : decode cX7_read 40 = .ok (.invokestatic 139, 3) := by decide +kernel
theorem dX7_read_43 : decode cX7_read 43 = .ok (.istore_n 2, 1) := by decide +kernel
theorem dX7_read_44 : decode cX7_read 44 = .ok (.iconst 0, 1) := by decide +kernel
theorem dX7_read_45 : decode cX7_read 45 = .ok (.istore_n 3, 1) := by decide +kernel
theorem dX7_read_46 : decode cX7_read 46 = .ok (.iload_n 3, 1) := by decide +kernel
theorem dX7_read_47 : decode cX7_read 47 = .ok (.iload_n 2, 1) := by decide +kernel
theorem dX7_read_48 : decode cX7_read 48 = .ok (.if_icmp .ge 43, 3) := by decide +kernel
theorem dX7_read_51 : decode cX7_read 51 = .ok (.aload_n 0, 1) := by decide +kernel
theorem dX7_read_52 : decode cX7_read 52 = .ok (.getfield 60, 3) := by decide +kernel
theorem dX7_read_55 : decode cX7_read 55 = .ok (.getfield 144, 3) := by decide +kernel
theorem dX7_read_58 : decode cX7_read 58 = .ok (.iload_n 1, 1) := by decide +kernel
theorem dX7_read_59 : decode cX7_read 59 = .ok (.aaload, 1) := by decide +kernel
theorem dX7_read_60 : decode cX7_read 60 = .ok (.iload_n 3, 1) := by decide +kernel
theorem dX7_read_61 : decode cX7_read 61 = .ok (.iaload, 1) := by decide +kernel
theorem dX7_read_62 : decode cX7_read 62 = .ok (.istore 4, 2) := by decide +kernel
theorem dX7_read_64 : decode cX7_read 64 = .ok (.iload 4, 2) := by decide +kernel
theorem dX7_read_66 : decode cX7_read 66 = .ok (.invokestatic 117, 3) := by decide +kernel
theorem dX7_read_69 : decode cX7_read 69 = .ok (.ifCond .eq 5, 3) := by decide +kernel
theorem dX7_read_72 : decode cX7_read 72 = .ok (.iload_n 3, 1) := by decide +kernel
theorem dX7_read_73 : decode cX7_read 73 = .ok (.ireturn, 1) := by decide +kernel
theorem dX7_read_74 : decode cX7_read 74 = .ok (.aload_n 0, 1) := by decide +kernel
theorem dX7_read_75 : decode cX7_read 75 = .ok (.getfield 30, 3) := by decide +kernel
theorem dX7_read_78 : decode cX7_read 78 = .ok (.getfield 120, 3) := by decide +kernel
theorem dX7_read_81 : decode cX7_read 81 = .ok (.iload_n 3, 1) := by decide +kernel
theorem dX7_read_82 : decode cX7_read 82 = .ok (.iload 4, 2) := by decide +kernel
theorem dX7_read_84 : decode cX7_read 84 = .ok (.iastore, 1) := by decide +kernel
theorem dX7_read_85 : decode cX7_read 85 = .ok (.iinc 3 1, 3) := by decide +kernel
theorem dX7_read_88 : decode cX7_read 88 = .ok (.goto (-42), 3) := by decide +kernel
theorem dX7_read_91 : decode cX7_read 91 = .ok (.iload_n 2, 1) := by decide +kernel
theorem dX7_read_92 : decode cX7_read 92 = .ok (.ireturn, 1) := by decide +kernel
theorem dX7_takes_0 : decode cX7_takes 0 = .ok (.aload_n 0, 1) := by decide +kernel
theorem dX7_takes_1 : decode cX7_takes 1 = .ok (.iload_n 1, 1) := by decide +kernel
theorem dX7_takes_2 : decode cX7_takes 2 = .ok (.invokevirtual 87, 3) := by decide +kernel
theorem dX7_takes_5 : decode cX7_takes 5 = .ok (.ifCond .ne 20, 3) := by decide +kernel
theorem dX7_takes_8 : decode cX7_takes 8 = .ok (.iload_n 2, 1) := by decide +kernel
theorem dX7_takes_9 : decode cX7_takes 9 = .ok (.invokestatic 94, 3) := by decide +kernel
theorem dX7_takes_12 : decode cX7_takes 12 = .ok (.ifCond .ne 13, 3) := by decide +kernel
theorem dX7_takes_15 : decode cX7_takes 15 = .ok (.iload_n 3, 1) := by decide +kernel
theorem dX7_takes_16 : decode cX7_takes 16 = .ok (.iconst 0, 1) := by decide +kernel
theorem dX7_takes_17 : decode cX7_takes 17 = .ok (.bipush 100, 2) := by decide +kernel
theorem dX7_takes_19 : decode cX7_takes 19 = .ok (.invokestatic 64, 3) := by decide +kernel
theorem dX7_takes_22 : decode cX7_takes 22 = .ok (.ifCond .eq 6, 3) := by decide +kernel
theorem dX7_takes_25 : decode cX7_takes 25 = .ok (.bipush (-2), 2) := by decide +kernel
theorem dX7_takes_27 : decode cX7_takes 27 = .ok (.ireturn, 1) := by decide +kernel
theorem dX7_takes_28 : decode cX7_takes 28 = .ok (.aload_n 0, 1) := by decide +kernel
theorem dX7_takes_29 : decode cX7_takes 29 = .ok (.getfield 21, 3) := by decide +kernel
theorem dX7_takes_32 : decode cX7_takes 32 = .ok (.iload_n 1, 1) := by decide +kernel
theorem dX7_takes_33 : decode cX7_takes 33 = .ok (.iload_n 2, 1) := by decide +kernel
theorem dX7_takes_34 : decode cX7_takes 34 = .ok (.iload_n 3, 1) := by decide +kernel
theorem dX7_takes_35 : decode cX7_takes 35 = .ok (.invokevirtual 148, 3) := by decide +kernel
theorem dX7_takes_38 : decode cX7_takes 38 = .ok (.ireturn, 1) := by decide +kernel
theorem dX7_when_0 : decode cX7_when 0 = .ok (.iload_n 1, 1) := by decide +kernel
theorem dX7_when_1 : decode cX7_when 1 = .ok (.invokestatic 94, 3) := by decide +kernel
theorem dX7_when_4 : decode cX7_when 4 = .ok (.ifCond .ne 12, 3) := by decide +kernel
theorem dX7_when_7 : decode cX7_when 7 = .ok (.iload_n 2, 1) := by decide +kernel
theorem dX7_when_8 : decode cX7_when 8 = .ok (.iconst 0, 1) := by decide +kernel
theorem dX7_when_9 : decode cX7_when 9 = .ok (.iconst 1, 1) := by decide +kernel
theorem dX7_when_10 : decode cX7_when 10 = .ok (.invokestatic 64, 3) := by decide +kernel
theorem dX7_when_13 : decode cX7_when 13 = .ok (.ifCond .eq 6, 3) := by decide +kernel
theorem dX7_when_16 : decode cX7_when 16 = .ok (.bipush (-2), 2) := by decide +kernel
theorem dX7_when_18 : decode cX7_when 18 = .ok (.ireturn, 1) := by decide +kernel
theorem dX7_when_19 : decode cX7_when 19 = .ok (.aload_n 0, 1) := by decide +kernel
theorem dX7_when_20 : decode cX7_when 20 = .ok (.getfield 30, 3) := by decide +kernel
theorem dX7_when_23 : decode cX7_when 23 = .ok (.invokevirtual 152, 3) := by decide +kernel
theorem dX7_when_26 : decode cX7_when 26 = .ok (.ifCond .eq 6, 3) := by decide +kernel
theorem dX7_when_29 : decode cX7_when 29 = .ok (.bipush (-3), 2) := by decide +kernel
theorem dX7_when_31 : decode cX7_when 31 = .ok (.ireturn, 1) := by decide +kernel
theorem dX7_when_32 : decode cX7_when 32 = .ok (.aload_n 0, 1) := by decide +kernel
theorem dX7_when_33 : decode cX7_when 33 = .ok (.getfield 30, 3) := by decide +kernel
theorem dX7_when_36 : decode cX7_when 36 = .ok (.iload_n 1, 1) := by decide +kernel
theorem dX7_when_37 : decode cX7_when 37 = .ok (.invokevirtual 155, 3) := by decide +kernel
theorem dX7_when_40 : decode cX7_when 40 = .ok (.istore_n 3, 1) := by decide +kernel
theorem dX7_when_41 : decode cX7_when 41 = .ok (.iload_n 2, 1) := by decide +kernel
theorem dX7_when_42 : decode cX7_when 42 = .ok (.ifCond .ne 7, 3) := by decide +kernel
theorem dX7_when_45 : decode cX7_when 45 = .ok (.iload_n 3, 1) := by decide +kernel
theorem dX7_when_46 : decode cX7_when 46 = .ok (.goto 24, 3) := by decide +kernel
theorem dX7_when_49 : decode cX7_when 49 = .ok (.iload_n 3, 1) := by decide +kernel
theorem dX7_when_50 : decode cX7_when 50 = .ok (.aload_n 0, 1) := by decide +kernel
theorem dX7_when_51 : decode cX7_when 51 = .ok (.getfield 21, 3) := by decide +kernel
theorem dX7_when_54 : decode cX7_when 54 = .ok (.aload_n 0, 1) := by decide +kernel
theorem dX7_when_55 : decode cX7_when 55 = .ok (.getfield 30, 3) := by decide +kernel
theorem dX7_when_58 : decode cX7_when 58 = .ok (.getfield 97, 3) := by decide +kernel
theorem dX7_when_61 : decode cX7_when 61 = .ok (.iload_n 1, 1) := by decide +kernel
theorem dX7_when_62 : decode cX7_when 62 = .ok (.iaload, 1) := by decide +kernel
theorem dX7_when_63 : decode cX7_when 63 = .ok (.iload_n 1, 1) := by decide +kernel
theorem dX7_when_64 : decode cX7_when 64 = .ok (.bipush 100, 2) := by decide +kernel
theorem dX7_when_66 : decode cX7_when 66 = .ok (.invokevirtual 148, 3) := by decide +kernel
theorem dX7_when_69 : decode cX7_when 69 = .ok (.iadd, 1) := by decide +kernel
theorem dX7_when_70 : decode cX7_when 70 = .ok (.ireturn, 1) := by decide +kernel
theorem dX7_meet_0 : decode cX7_meet 0 = .ok (.iload_n 1, 1) := by decide +kernel
theorem dX7_meet_1 : decode cX7_meet 1 = .ok (.invokestatic 114, 3) := by decide +kernel
theorem dX7_meet_4 : decode cX7_meet 4 = .ok (.ifCond .eq 6, 3) := by decide +kernel
theorem dX7_meet_7 : decode cX7_meet 7 = .ok (.bipush (-2), 2) := by decide +kernel
theorem dX7_meet_9 : decode cX7_meet 9 = .ok (.ireturn, 1) := by decide +kernel
theorem dX7_meet_10 : decode cX7_meet 10 = .ok (.aload_n 0, 1) := by decide +kernel
theorem dX7_meet_11 : decode cX7_meet 11 = .ok (.getfield 30, 3) := by decide +kernel
theorem dX7_meet_14 : decode cX7_meet 14 = .ok (.invokevirtual 152, 3) := by decide +kernel
theorem dX7_meet_17 : decode cX7_meet 17 = .ok (.ifCond .eq 6, 3) := by decide +kernel
theorem dX7_meet_20 : decode cX7_meet 20 = .ok (.bipush (-3), 2) := by decide +kernel
theorem dX7_meet_22 : decode cX7_meet 22 = .ok (.ireturn, 1) := by decide +kernel
theorem dX7_meet_23 : decode cX7_meet 23 = .ok (.aload_n 0, 1) := by decide +kernel
theorem dX7_meet_24 : decode cX7_meet 24 = .ok (.getfield 30, 3) := by decide +kernel
theorem dX7_meet_27 : decode cX7_meet 27 = .ok (.iload_n 1, 1) := by decide +kernel
theorem dX7_meet_28 : decode cX7_meet 28 = .ok (.aload_n 0, 1) := by decide +kernel
theorem dX7_meet_29 : decode cX7_meet 29 = .ok (.getfield 30, 3) := by decide +kernel
theorem dX7_meet_32 : decode cX7_meet 32 = .ok (.getfield 123, 3) := by decide +kernel
theorem dX7_meet_35 : decode cX7_meet 35 = .ok (.iload_n 1, 1) := by decide +kernel
theorem dX7_meet_36 : decode cX7_meet 36 = .ok (.iaload, 1) := by decide +kernel
theorem dX7_meet_37 : decode cX7_meet 37 = .ok (.invokevirtual 158, 3) := by decide +kernel
theorem dX7_meet_40 : decode cX7_meet 40 = .ok (.ireturn, 1) := by decide +kernel
theorem dX7_kind_0 : decode cX7_kind 0 = .ok (.iload_n 1, 1) := by decide +kernel
theorem dX7_kind_1 : decode cX7_kind 1 = .ok (.invokestatic 114, 3) := by decide +kernel
theorem dX7_kind_4 : decode cX7_kind 4 = .ok (.ifCond .eq 6, 3) := by decide +kernel
theorem dX7_kind_7 : decode cX7_kind 7 = .ok (.bipush (-2), 2) := by decide +kernel
theorem dX7_kind_9 : decode cX7_kind 9 = .ok (.ireturn, 1) := by decide +kernel
theorem dX7_kind_10 : decode cX7_kind 10 = .ok (.aload_n 0, 1) := by decide +kernel
theorem dX7_kind_11 : decode cX7_kind 11 = .ok (.getfield 30, 3) := by decide +kernel
theorem dX7_kind_14 : decode cX7_kind 14 = .ok (.invokevirtual 152, 3) := by decide +kernel
theorem dX7_kind_17 : decode cX7_kind 17 = .ok (.ifCond .eq 6, 3) := by decide +kernel
theorem dX7_kind_20 : decode cX7_kind 20 = .ok (.bipush (-3), 2) := by decide +kernel
theorem dX7_kind_22 : decode cX7_kind 22 = .ok (.ireturn, 1) := by decide +kernel
theorem dX7_kind_23 : decode cX7_kind 23 = .ok (.aload_n 0, 1) := by decide +kernel
theorem dX7_kind_24 : decode cX7_kind 24 = .ok (.getfield 21, 3) := by decide +kernel
theorem dX7_kind_27 : decode cX7_kind 27 = .ok (.aload_n 0, 1) := by decide +kernel
theorem dX7_kind_28 : decode cX7_kind 28 = .ok (.getfield 30, 3) := by decide +kernel
theorem dX7_kind_31 : decode cX7_kind 31 = .ok (.iload_n 1, 1) := by decide +kernel
theorem dX7_kind_32 : decode cX7_kind 32 = .ok (.aload_n 0, 1) := by decide +kernel
theorem dX7_kind_33 : decode cX7_kind 33 = .ok (.getfield 30, 3) := by decide +kernel
theorem dX7_kind_36 : decode cX7_kind 36 = .ok (.getfield 123, 3) := by decide +kernel
theorem dX7_kind_39 : decode cX7_kind 39 = .ok (.iload_n 1, 1) := by decide +kernel
theorem dX7_kind_40 : decode cX7_kind 40 = .ok (.iaload, 1) := by decide +kernel
theorem dX7_kind_41 : decode cX7_kind 41 = .ok (.invokevirtual 158, 3) := by decide +kernel
theorem dX7_kind_44 : decode cX7_kind 44 = .ok (.invokevirtual 161, 3) := by decide +kernel
theorem dX7_kind_47 : decode cX7_kind 47 = .ok (.ireturn, 1) := by decide +kernel
theorem dX7_time_0 : decode cX7_time 0 = .ok (.aload_n 0, 1) := by decide +kernel
theorem dX7_time_1 : decode cX7_time 1 = .ok (.getfield 30, 3) := by decide +kernel
theorem dX7_time_4 : decode cX7_time 4 = .ok (.invokevirtual 152, 3) := by decide +kernel
theorem dX7_time_7 : decode cX7_time 7 = .ok (.ifCond .eq 8, 3) := by decide +kernel
theorem dX7_time_10 : decode cX7_time 10 = .ok (.bipush (-3), 2) := by decide +kernel
theorem dX7_time_12 : decode cX7_time 12 = .ok (.goto 17, 3) := by decide +kernel
theorem dX7_time_15 : decode cX7_time 15 = .ok (.aload_n 0, 1) := by decide +kernel
theorem dX7_time_16 : decode cX7_time 16 = .ok (.getfield 30, 3) := by decide +kernel
theorem dX7_time_19 : decode cX7_time 19 = .ok (.aload_n 0, 1) := by decide +kernel
theorem dX7_time_20 : decode cX7_time 20 = .ok (.getfield 30, 3) := by decide +kernel
theorem dX7_time_23 : decode cX7_time 23 = .ok (.getfield 123, 3) := by decide +kernel
theorem dX7_time_26 : decode cX7_time 26 = .ok (.invokevirtual 164, 3) := by decide +kernel
theorem dX7_time_29 : decode cX7_time 29 = .ok (.ireturn, 1) := by decide +kernel
theorem dX7_carries_0 : decode cX7_carries 0 = .ok (.iload_n 1, 1) := by decide +kernel
theorem dX7_carries_1 : decode cX7_carries 1 = .ok (.invokestatic 94, 3) := by decide +kernel
theorem dX7_carries_4 : decode cX7_carries 4 = .ok (.ifCond .eq 6, 3) := by decide +kernel
theorem dX7_carries_7 : decode cX7_carries 7 = .ok (.bipush (-2), 2) := by decide +kernel
theorem dX7_carries_9 : decode cX7_carries 9 = .ok (.ireturn, 1) := by decide +kernel
theorem dX7_carries_10 : decode cX7_carries 10 = .ok (.aload_n 0, 1) := by decide +kernel
theorem dX7_carries_11 : decode cX7_carries 11 = .ok (.getfield 30, 3) := by decide +kernel
theorem dX7_carries_14 : decode cX7_carries 14 = .ok (.invokevirtual 152, 3) := by decide +kernel
theorem dX7_carries_17 : decode cX7_carries 17 = .ok (.ifCond .eq 8, 3) := by decide +kernel
theorem dX7_carries_20 : decode cX7_carries 20 = .ok (.bipush (-3), 2) := by decide +kernel
theorem dX7_carries_22 : decode cX7_carries 22 = .ok (.goto 11, 3) := by decide +kernel
theorem dX7_carries_25 : decode cX7_carries 25 = .ok (.aload_n 0, 1) := by decide +kernel
theorem dX7_carries_26 : decode cX7_carries 26 = .ok (.getfield 30, 3) := by decide +kernel
theorem dX7_carries_29 : decode cX7_carries 29 = .ok (.iload_n 1, 1) := by decide +kernel
theorem dX7_carries_30 : decode cX7_carries 30 = .ok (.invokevirtual 168, 3) := by decide +kernel
theorem dX7_carries_33 : decode cX7_carries 33 = .ok (.ireturn, 1) := by decide +kernel
theorem dX7_chance_0 : decode cX7_chance 0 = .ok (.iload_n 1, 1) := by decide +kernel
theorem dX7_chance_1 : decode cX7_chance 1 = .ok (.invokestatic 114, 3) := by decide +kernel
theorem dX7_chance_4 : decode cX7_chance 4 = .ok (.ifCond .eq 6, 3) := by decide +kernel
theorem dX7_chance_7 : decode cX7_chance 7 = .ok (.bipush (-2), 2) := by decide +kernel
theorem dX7_chance_9 : decode cX7_chance 9 = .ok (.ireturn, 1) := by decide +kernel
theorem dX7_chance_10 : decode cX7_chance 10 = .ok (.aload_n 0, 1) := by decide +kernel
theorem dX7_chance_11 : decode cX7_chance 11 = .ok (.getfield 30, 3) := by decide +kernel
theorem dX7_chance_14 : decode cX7_chance 14 = .ok (.invokevirtual 152, 3) := by decide +kernel
theorem dX7_chance_17 : decode cX7_chance 17 = .ok (.ifCond .eq 8, 3) := by decide +kernel
theorem dX7_chance_20 : decode cX7_chance 20 = .ok (.bipush (-3), 2) := by decide +kernel
theorem dX7_chance_22 : decode cX7_chance 22 = .ok (.goto 11, 3) := by decide +kernel
theorem dX7_chance_25 : decode cX7_chance 25 = .ok (.aload_n 0, 1) := by decide +kernel
theorem dX7_chance_26 : decode cX7_chance 26 = .ok (.getfield 39, 3) := by decide +kernel
theorem dX7_chance_29 : decode cX7_chance 29 = .ok (.iload_n 1, 1) := by decide +kernel
theorem dX7_chance_30 : decode cX7_chance 30 = .ok (.invokevirtual 171, 3) := by decide +kernel
theorem dX7_chance_33 : decode cX7_chance 33 = .ok (.ireturn, 1) := by decide +kernel
theorem dX7_all_0 : decode cX7_all 0 = .ok (.iload_n 1, 1) := by decide +kernel
theorem dX7_all_1 : decode cX7_all 1 = .ok (.iconst 0, 1) := by decide +kernel
theorem dX7_all_2 : decode cX7_all 2 = .ok (.iconst 1, 1) := by decide +kernel
theorem dX7_all_3 : decode cX7_all 3 = .ok (.invokestatic 64, 3) := by decide +kernel
theorem dX7_all_6 : decode cX7_all 6 = .ok (.ifCond .eq 7, 3) := by decide +kernel
theorem dX7_all_9 : decode cX7_all 9 = .ok (.ldc2_w 174, 3) := by decide +kernel
theorem dX7_all_12 : decode cX7_all 12 = .ok (.lreturn, 1) := by decide +kernel
theorem dX7_all_13 : decode cX7_all 13 = .ok (.aload_n 0, 1) := by decide +kernel
theorem dX7_all_14 : decode cX7_all 14 = .ok (.getfield 30, 3) := by decide +kernel
theorem dX7_all_17 : decode cX7_all 17 = .ok (.invokevirtual 152, 3) := by decide +kernel
theorem dX7_all_20 : decode cX7_all 20 = .ok (.ifCond .eq 9, 3) := by decide +kernel
theorem dX7_all_23 : decode cX7_all 23 = .ok (.ldc2_w 176, 3) := by decide +kernel
theorem dX7_all_26 : decode cX7_all 26 = .ok (.goto 12, 3) := by decide +kernel
theorem dX7_all_29 : decode cX7_all 29 = .ok (.aload_n 0, 1) := by decide +kernel
theorem dX7_all_30 : decode cX7_all 30 = .ok (.getfield 39, 3) := by decide +kernel
theorem dX7_all_33 : decode cX7_all 33 = .ok (.iload_n 1, 1) := by decide +kernel
theorem dX7_all_34 : decode cX7_all 34 = .ok (.invokevirtual 178, 3) := by decide +kernel
theorem dX7_all_37 : decode cX7_all 37 = .ok (.i2l, 1) := by decide +kernel
theorem dX7_all_38 : decode cX7_all 38 = .ok (.lreturn, 1) := by decide +kernel
theorem dX7_safe_0 : decode cX7_safe 0 = .ok (.iload_n 1, 1) := by decide +kernel
theorem dX7_safe_1 : decode cX7_safe 1 = .ok (.invokestatic 114, 3) := by decide +kernel
theorem dX7_safe_4 : decode cX7_safe 4 = .ok (.ifCond .ne 13, 3) := by decide +kernel
theorem dX7_safe_7 : decode cX7_safe 7 = .ok (.iload_n 2, 1) := by decide +kernel
theorem dX7_safe_8 : decode cX7_safe 8 = .ok (.iconst 0, 1) := by decide +kernel
theorem dX7_safe_9 : decode cX7_safe 9 = .ok (.bipush 16, 2) := by decide +kernel
theorem dX7_safe_11 : decode cX7_safe 11 = .ok (.invokestatic 64, 3) := by decide +kernel
theorem dX7_safe_14 : decode cX7_safe 14 = .ok (.ifCond .eq 6, 3) := by decide +kernel
theorem dX7_safe_17 : decode cX7_safe 17 = .ok (.bipush (-2), 2) := by decide +kernel
theorem dX7_safe_19 : decode cX7_safe 19 = .ok (.ireturn, 1) := by decide +kernel
theorem dX7_safe_20 : decode cX7_safe 20 = .ok (.aload_n 0, 1) := by decide +kernel
theorem dX7_safe_21 : decode cX7_safe 21 = .ok (.getfield 30, 3) := by decide +kernel
theorem dX7_safe_24 : decode cX7_safe 24 = .ok (.invokevirtual 152, 3) := by decide +kernel
theorem dX7_safe_27 : decode cX7_safe 27 = .ok (.ifCond .eq 8, 3) := by decide +kernel
theorem dX7_safe_30 : decode cX7_safe 30 = .ok (.bipush (-3), 2) := by decide +kernel
theorem dX7_safe_32 : decode cX7_safe 32 = .ok (.goto 12, 3) := by decide +kernel
theorem dX7_safe_35 : decode cX7_safe 35 = .ok (.aload_n 0, 1) := by decide +kernel
theorem dX7_safe_36 : decode cX7_safe 36 = .ok (.getfield 39, 3) := by decide +kernel
theorem dX7_safe_39 : decode cX7_safe 39 = .ok (.iload_n 1, 1) := by decide +kernel
theorem dX7_safe_40 : decode cX7_safe 40 = .ok (.iload_n 2, 1) := by decide +kernel
theorem dX7_safe_41 : decode cX7_safe 41 = .ok (.invokevirtual 181, 3) := by decide +kernel
theorem dX7_safe_44 : decode cX7_safe 44 = .ok (.ireturn, 1) := by decide +kernel
theorem dX7_best_0 : decode cX7_best 0 = .ok (.iload_n 1, 1) := by decide +kernel
theorem dX7_best_1 : decode cX7_best 1 = .ok (.invokestatic 114, 3) := by decide +kernel
theorem dX7_best_4 : decode cX7_best 4 = .ok (.ifCond .eq 6, 3) := by decide +kernel
theorem dX7_best_7 : decode cX7_best 7 = .ok (.bipush (-2), 2) := by decide +kernel
theorem dX7_best_9 : decode cX7_best 9 = .ok (.ireturn, 1) := by decide +kernel
theorem dX7_best_10 : decode cX7_best 10 = .ok (.aload_n 0, 1) := by decide +kernel
theorem dX7_best_11 : decode cX7_best 11 = .ok (.getfield 30, 3) := by decide +kernel
theorem dX7_best_14 : decode cX7_best 14 = .ok (.invokevirtual 152, 3) := by decide +kernel
theorem dX7_best_17 : decode cX7_best 17 = .ok (.ifCond .eq 8, 3) := by decide +kernel
theorem dX7_best_20 : decode cX7_best 20 = .ok (.bipush (-3), 2) := by decide +kernel
theorem dX7_best_22 : decode cX7_best 22 = .ok (.goto 11, 3) := by decide +kernel
theorem dX7_best_25 : decode cX7_best 25 = .ok (.aload_n 0, 1) := by decide +kernel
theorem dX7_best_26 : decode cX7_best 26 = .ok (.getfield 30, 3) := by decide +kernel
theorem dX7_best_29 : decode cX7_best 29 = .ok (.iload_n 1, 1) := by decide +kernel
theorem dX7_best_30 : decode cX7_best 30 = .ok (.invokevirtual 184, 3) := by decide +kernel
theorem dX7_best_33 : decode cX7_best 33 = .ok (.ireturn, 1) := by decide +kernel
theorem dX7_order_0 : decode cX7_order 0 = .ok (.iload_n 1, 1) := by decide +kernel
theorem dX7_order_1 : decode cX7_order 1 = .ok (.iconst (-1), 1) := by decide +kernel
theorem dX7_order_2 : decode cX7_order 2 = .ok (.iconst 4, 1) := by decide +kernel
theorem dX7_order_3 : decode cX7_order 3 = .ok (.invokestatic 64, 3) := by decide +kernel
theorem dX7_order_6 : decode cX7_order 6 = .ok (.ifCond .ne 13, 3) := by decide +kernel
theorem dX7_order_9 : decode cX7_order 9 = .ok (.iload_n 2, 1) := by decide +kernel
theorem dX7_order_10 : decode cX7_order 10 = .ok (.iconst 0, 1) := by decide +kernel
theorem dX7_order_11 : decode cX7_order 11 = .ok (.bipush 7, 2) := by decide +kernel
theorem dX7_order_13 : decode cX7_order 13 = .ok (.invokestatic 64, 3) := by decide +kernel
theorem dX7_order_16 : decode cX7_order 16 = .ok (.ifCond .eq 6, 3) := by decide +kernel
theorem dX7_order_19 : decode cX7_order 19 = .ok (.bipush (-2), 2) := by decide +kernel
theorem dX7_order_21 : decode cX7_order 21 = .ok (.ireturn, 1) := by decide +kernel
theorem dX7_order_22 : decode cX7_order 22 = .ok (.aload_n 0, 1) := by decide +kernel
theorem dX7_order_23 : decode cX7_order 23 = .ok (.getfield 46, 3) := by decide +kernel
theorem dX7_order_26 : decode cX7_order 26 = .ok (.iload_n 1, 1) := by decide +kernel
theorem dX7_order_27 : decode cX7_order 27 = .ok (.invokevirtual 187, 3) := by decide +kernel
theorem dX7_order_30 : decode cX7_order 30 = .ok (.aload_n 0, 1) := by decide +kernel
theorem dX7_order_31 : decode cX7_order 31 = .ok (.getfield 46, 3) := by decide +kernel
theorem dX7_order_34 : decode cX7_order 34 = .ok (.getfield 191, 3) := by decide +kernel
theorem dX7_order_37 : decode cX7_order 37 = .ok (.iload_n 2, 1) := by decide +kernel
theorem dX7_order_38 : decode cX7_order 38 = .ok (.iaload, 1) := by decide +kernel
theorem dX7_order_39 : decode cX7_order 39 = .ok (.ireturn, 1) := by decide +kernel
theorem dX7_blame_0 : decode cX7_blame 0 = .ok (.iload_n 1, 1) := by decide +kernel
theorem dX7_blame_1 : decode cX7_blame 1 = .ok (.invokestatic 114, 3) := by decide +kernel
theorem dX7_blame_4 : decode cX7_blame 4 = .ok (.ifCond .ne 20, 3) := by decide +kernel
theorem dX7_blame_7 : decode cX7_blame 7 = .ok (.iload_n 2, 1) := by decide +kernel
theorem dX7_blame_8 : decode cX7_blame 8 = .ok (.iconst 0, 1) := by decide +kernel
theorem dX7_blame_9 : decode cX7_blame 9 = .ok (.aload_n 0, 1) := by decide +kernel
theorem dX7_blame_10 : decode cX7_blame 10 = .ok (.getfield 21, 3) := by decide +kernel
theorem dX7_blame_13 : decode cX7_blame 13 = .ok (.getfield 194, 3) := by decide +kernel
theorem dX7_blame_16 : decode cX7_blame 16 = .ok (.iconst 0, 1) := by decide +kernel
theorem dX7_blame_17 : decode cX7_blame 17 = .ok (.iaload, 1) := by decide +kernel
theorem dX7_blame_18 : decode cX7_blame 18 = .ok (.invokestatic 64, 3) := by decide +kernel
theorem dX7_blame_21 : decode cX7_blame 21 = .ok (.ifCond .eq 6, 3) := by decide +kernel
theorem dX7_blame_24 : decode cX7_blame 24 = .ok (.bipush (-2), 2) := by decide +kernel
theorem dX7_blame_26 : decode cX7_blame 26 = .ok (.ireturn, 1) := by decide +kernel
theorem dX7_blame_27 : decode cX7_blame 27 = .ok (.aload_n 0, 1) := by decide +kernel
theorem dX7_blame_28 : decode cX7_blame 28 = .ok (.getfield 30, 3) := by decide +kernel
theorem dX7_blame_31 : decode cX7_blame 31 = .ok (.invokevirtual 152, 3) := by decide +kernel
theorem dX7_blame_34 : decode cX7_blame 34 = .ok (.ifCond .eq 8, 3) := by decide +kernel
theorem dX7_blame_37 : decode cX7_blame 37 = .ok (.bipush (-3), 2) := by decide +kernel
theorem dX7_blame_39 : decode cX7_blame 39 = .ok (.goto 12, 3) := by decide +kernel
theorem dX7_blame_42 : decode cX7_blame 42 = .ok (.aload_n 0, 1) := by decide +kernel
theorem dX7_blame_43 : decode cX7_blame 43 = .ok (.getfield 39, 3) := by decide +kernel
theorem dX7_blame_46 : decode cX7_blame 46 = .ok (.iload_n 1, 1) := by decide +kernel
theorem dX7_blame_47 : decode cX7_blame 47 = .ok (.iload_n 2, 1) := by decide +kernel
theorem dX7_blame_48 : decode cX7_blame 48 = .ok (.invokevirtual 197, 3) := by decide +kernel
theorem dX7_blame_51 : decode cX7_blame 51 = .ok (.ireturn, 1) := by decide +kernel
theorem dX7_lot_0 : decode cX7_lot 0 = .ok (.aload_n 0, 1) := by decide +kernel
theorem dX7_lot_1 : decode cX7_lot 1 = .ok (.getfield 30, 3) := by decide +kernel
theorem dX7_lot_4 : decode cX7_lot 4 = .ok (.invokevirtual 152, 3) := by decide +kernel
theorem dX7_lot_7 : decode cX7_lot 7 = .ok (.ifCond .eq 6, 3) := by decide +kernel
theorem dX7_lot_10 : decode cX7_lot 10 = .ok (.bipush (-3), 2) := by decide +kernel
theorem dX7_lot_12 : decode cX7_lot 12 = .ok (.ireturn, 1) := by decide +kernel
theorem dX7_lot_13 : decode cX7_lot 13 = .ok (.aload_n 0, 1) := by decide +kernel
theorem dX7_lot_14 : decode cX7_lot 14 = .ok (.getfield 53, 3) := by decide +kernel
theorem dX7_lot_17 : decode cX7_lot 17 = .ok (.iload_n 1, 1) := by decide +kernel
theorem dX7_lot_18 : decode cX7_lot 18 = .ok (.putfield 200, 3) := by decide +kernel
theorem dX7_lot_21 : decode cX7_lot 21 = .ok (.aload_n 0, 1) := by decide +kernel
theorem dX7_lot_22 : decode cX7_lot 22 = .ok (.getfield 53, 3) := by decide +kernel
theorem dX7_lot_25 : decode cX7_lot 25 = .ok (.aload_n 0, 1) := by decide +kernel
theorem dX7_lot_26 : decode cX7_lot 26 = .ok (.getfield 21, 3) := by decide +kernel
theorem dX7_lot_29 : decode cX7_lot 29 = .ok (.getfield 194, 3) := by decide +kernel
theorem dX7_lot_32 : decode cX7_lot 32 = .ok (.bipush 6, 2) := by decide +kernel
theorem dX7_lot_34 : decode cX7_lot 34 = .ok (.iaload, 1) := by decide +kernel
theorem dX7_lot_35 : decode cX7_lot 35 = .ok (.invokevirtual 203, 3) := by decide +kernel
theorem dX7_lot_38 : decode cX7_lot 38 = .ok (.aload_n 0, 1) := by decide +kernel
theorem dX7_lot_39 : decode cX7_lot 39 = .ok (.getfield 30, 3) := by decide +kernel
theorem dX7_lot_42 : decode cX7_lot 42 = .ok (.aload_n 0, 1) := by decide +kernel
theorem dX7_lot_43 : decode cX7_lot 43 = .ok (.getfield 53, 3) := by decide +kernel
theorem dX7_lot_46 : decode cX7_lot 46 = .ok (.getfield 206, 3) := by decide +kernel
theorem dX7_lot_49 : decode cX7_lot 49 = .ok (.invokevirtual 164, 3) := by decide +kernel
theorem dX7_lot_52 : decode cX7_lot 52 = .ok (.ireturn, 1) := by decide +kernel
theorem dX7_races_0 : decode cX7_races 0 = .ok (.iload_n 2, 1) := by decide +kernel
theorem dX7_races_1 : decode cX7_races 1 = .ok (.iconst 0, 1) := by decide +kernel
theorem dX7_races_2 : decode cX7_races 2 = .ok (.bipush 60, 2) := by decide +kernel
theorem dX7_races_4 : decode cX7_races 4 = .ok (.invokestatic 64, 3) := by decide +kernel
theorem dX7_races_7 : decode cX7_races 7 = .ok (.ifCond .ne 13, 3) := by decide +kernel
theorem dX7_races_10 : decode cX7_races 10 = .ok (.iload_n 3, 1) := by decide +kernel
theorem dX7_races_11 : decode cX7_races 11 = .ok (.iconst 0, 1) := by decide +kernel
theorem dX7_races_12 : decode cX7_races 12 = .ok (.ldc 207, 2) := by decide +kernel
theorem dX7_races_14 : decode cX7_races 14 = .ok (.invokestatic 64, 3) := by decide +kernel
theorem dX7_races_17 : decode cX7_races 17 = .ok (.ifCond .eq 6, 3) := by decide +kernel
theorem dX7_races_20 : decode cX7_races 20 = .ok (.bipush (-2), 2) := by decide +kernel
theorem dX7_races_22 : decode cX7_races 22 = .ok (.ireturn, 1) := by decide +kernel
theorem dX7_races_23 : decode cX7_races 23 = .ok (.aload_n 0, 1) := by decide +kernel
theorem dX7_races_24 : decode cX7_races 24 = .ok (.getfield 30, 3) := by decide +kernel
theorem dX7_races_27 : decode cX7_races 27 = .ok (.invokevirtual 152, 3) := by decide +kernel
theorem dX7_races_30 : decode cX7_races 30 = .ok (.ifCond .eq 6, 3) := by decide +kernel
theorem dX7_races_33 : decode cX7_races 33 = .ok (.bipush (-3), 2) := by decide +kernel
theorem dX7_races_35 : decode cX7_races 35 = .ok (.ireturn, 1) := by decide +kernel
theorem dX7_races_36 : decode cX7_races 36 = .ok (.aload_n 0, 1) := by decide +kernel
theorem dX7_races_37 : decode cX7_races 37 = .ok (.getfield 53, 3) := by decide +kernel
theorem dX7_races_40 : decode cX7_races 40 = .ok (.iload_n 1, 1) := by decide +kernel
theorem dX7_races_41 : decode cX7_races 41 = .ok (.putfield 200, 3) := by decide +kernel
theorem dX7_races_44 : decode cX7_races 44 = .ok (.iconst 0, 1) := by decide +kernel
theorem dX7_races_45 : decode cX7_races 45 = .ok (.istore 4, 2) := by decide +kernel
theorem dX7_races_47 : decode cX7_races 47 = .ok (.iconst 0, 1) := by decide +kernel
theorem dX7_races_48 : decode cX7_races 48 = .ok (.istore 5, 2) := by decide +kernel
theorem dX7_races_50 : decode cX7_races 50 = .ok (.iload 5, 2) := by decide +kernel
theorem dX7_races_52 : decode cX7_races 52 = .ok (.iload_n 2, 1) := by decide +kernel
theorem dX7_races_53 : decode cX7_races 53 = .ok (.if_icmp .ge 57, 3) := by decide +kernel
theorem dX7_races_56 : decode cX7_races 56 = .ok (.aload_n 0, 1) := by decide +kernel
theorem dX7_races_57 : decode cX7_races 57 = .ok (.getfield 53, 3) := by decide +kernel
theorem dX7_races_60 : decode cX7_races 60 = .ok (.aload_n 0, 1) := by decide +kernel
theorem dX7_races_61 : decode cX7_races 61 = .ok (.getfield 21, 3) := by decide +kernel
theorem dX7_races_64 : decode cX7_races 64 = .ok (.getfield 194, 3) := by decide +kernel
theorem dX7_races_67 : decode cX7_races 67 = .ok (.bipush 6, 2) := by decide +kernel
theorem dX7_races_69 : decode cX7_races 69 = .ok (.iaload, 1) := by decide +kernel
theorem dX7_races_70 : decode cX7_races 70 = .ok (.invokevirtual 203, 3) := by decide +kernel
theorem dX7_races_73 : decode cX7_races 73 = .ok (.aload_n 0, 1) := by decide +kernel
theorem dX7_races_74 : decode cX7_races 74 = .ok (.getfield 30, 3) := by decide +kernel
theorem dX7_races_77 : decode cX7_races 77 = .ok (.aload_n 0, 1) := by decide +kernel
theorem dX7_races_78 : decode cX7_races 78 = .ok (.getfield 53, 3) := by decide +kernel
theorem dX7_races_81 : decode cX7_races 81 = .ok (.getfield 206, 3) := by decide +kernel
theorem dX7_races_84 : decode cX7_races 84 = .ok (.invokevirtual 164, 3) := by decide +kernel
theorem dX7_races_87 : decode cX7_races 87 = .ok (.istore 6, 2) := by decide +kernel
theorem dX7_races_89 : decode cX7_races 89 = .ok (.iload 6, 2) := by decide +kernel
theorem dX7_races_91 : decode cX7_races 91 = .ok (.iconst (-1), 1) := by decide +kernel
theorem dX7_races_92 : decode cX7_races 92 = .ok (.if_icmp .eq 12, 3) := by decide +kernel
theorem dX7_races_95 : decode cX7_races 95 = .ok (.iload 6, 2) := by decide +kernel
theorem dX7_races_97 : decode cX7_races 97 = .ok (.iload_n 3, 1) := by decide +kernel
theorem dX7_races_98 : decode cX7_races 98 = .ok (.if_icmp .gt 6, 3) := by decide +kernel
theorem dX7_races_101 : decode cX7_races 101 = .ok (.iinc 4 1, 3) := by decide +kernel
theorem dX7_races_104 : decode cX7_races 104 = .ok (.iinc 5 1, 3) := by decide +kernel
theorem dX7_races_107 : decode cX7_races 107 = .ok (.goto (-57), 3) := by decide +kernel
theorem dX7_races_110 : decode cX7_races 110 = .ok (.iload 4, 2) := by decide +kernel
theorem dX7_races_112 : decode cX7_races 112 = .ok (.ireturn, 1) := by decide +kernel
theorem dX7_sheet_0 : decode cX7_sheet 0 = .ok (.iload_n 1, 1) := by decide +kernel
theorem dX7_sheet_1 : decode cX7_sheet 1 = .ok (.invokestatic 126, 3) := by decide +kernel
theorem dX7_sheet_4 : decode cX7_sheet 4 = .ok (.ifCond .ne 16, 3) := by decide +kernel
theorem dX7_sheet_7 : decode cX7_sheet 7 = .ok (.iload_n 2, 1) := by decide +kernel
theorem dX7_sheet_8 : decode cX7_sheet 8 = .ok (.invokestatic 208, 3) := by decide +kernel
theorem dX7_sheet_11 : decode cX7_sheet 11 = .ok (.ifCond .ne 9, 3) := by decide +kernel
theorem dX7_sheet_14 : decode cX7_sheet 14 = .ok (.iload_n 3, 1) := by decide +kernel
theorem dX7_sheet_15 : decode cX7_sheet 15 = .ok (.bipush 60, 2) := by decide +kernel
theorem dX7_sheet_17 : decode cX7_sheet 17 = .ok (.if_icmp .le 6, 3) := by decide +kernel
theorem dX7_sheet_20 : decode cX7_sheet 20 = .ok (.bipush (-2), 2) := by decide +kernel
theorem dX7_sheet_22 : decode cX7_sheet 22 = .ok (.ireturn, 1) := by decide +kernel
theorem dX7_sheet_23 : decode cX7_sheet 23 = .ok (.iload_n 3, 1) := by decide +kernel
theorem dX7_sheet_24 : decode cX7_sheet 24 = .ok (.ifCond .ge 12, 3) := by decide +kernel
theorem dX7_sheet_27 : decode cX7_sheet 27 = .ok (.aload_n 0, 1) := by decide +kernel
theorem dX7_sheet_28 : decode cX7_sheet 28 = .ok (.getfield 60, 3) := by decide +kernel
theorem dX7_sheet_31 : decode cX7_sheet 31 = .ok (.iconst 5, 1) := by decide +kernel
theorem dX7_sheet_32 : decode cX7_sheet 32 = .ok (.invokevirtual 132, 3) := by decide +kernel
theorem dX7_sheet_35 : decode cX7_sheet 35 = .ok (.ireturn, 1) := by decide +kernel
theorem dX7_sheet_36 : decode cX7_sheet 36 = .ok (.aload_n 0, 1) := by decide +kernel
theorem dX7_sheet_37 : decode cX7_sheet 37 = .ok (.getfield 60, 3) := by decide +kernel
theorem dX7_sheet_40 : decode cX7_sheet 40 = .ok (.iload_n 1, 1) := by decide +kernel
theorem dX7_sheet_41 : decode cX7_sheet 41 = .ok (.iload_n 2, 1) := by decide +kernel
theorem dX7_sheet_42 : decode cX7_sheet 42 = .ok (.iload_n 3, 1) := by decide +kernel
theorem dX7_sheet_43 : decode cX7_sheet 43 = .ok (.invokevirtual 211, 3) := by decide +kernel
theorem dX7_sheet_46 : decode cX7_sheet 46 = .ok (.iload_n 3, 1) := by decide +kernel
theorem dX7_sheet_47 : decode cX7_sheet 47 = .ok (.ireturn, 1) := by decide +kernel
theorem dX7_lose_0 : decode cX7_lose 0 = .ok (.iload_n 1, 1) := by decide +kernel
theorem dX7_lose_1 : decode cX7_lose 1 = .ok (.invokestatic 126, 3) := by decide +kernel
theorem dX7_lose_4 : decode cX7_lose 4 = .ok (.ifCond .eq 6, 3) := by decide +kernel
theorem dX7_lose_7 : decode cX7_lose 7 = .ok (.bipush (-2), 2) := by decide +kernel
theorem dX7_lose_9 : decode cX7_lose 9 = .ok (.ireturn, 1) := by decide +kernel
theorem dX7_lose_10 : decode cX7_lose 10 = .ok (.aload_n 0, 1) := by decide +kernel
theorem dX7_lose_11 : decode cX7_lose 11 = .ok (.getfield 60, 3) := by decide +kernel
theorem dX7_lose_14 : decode cX7_lose 14 = .ok (.iload_n 1, 1) := by decide +kernel
theorem dX7_lose_15 : decode cX7_lose 15 = .ok (.invokevirtual 129, 3) := by decide +kernel
theorem dX7_lose_18 : decode cX7_lose 18 = .ok (.ifCond .eq 12, 3) := by decide +kernel
theorem dX7_lose_21 : decode cX7_lose 21 = .ok (.aload_n 0, 1) := by decide +kernel
theorem dX7_lose_22 : decode cX7_lose 22 = .ok (.getfield 60, 3) := by decide +kernel
theorem dX7_lose_25 : decode cX7_lose 25 = .ok (.iconst 1, 1) := by decide +kernel
theorem dX7_lose_26 : decode cX7_lose 26 = .ok (.invokevirtual 132, 3) := by decide +kernel
theorem dX7_lose_29 : decode cX7_lose 29 = .ok (.ireturn, 1) := by decide +kernel
theorem dX7_lose_30 : decode cX7_lose 30 = .ok (.aload_n 0, 1) := by decide +kernel
theorem dX7_lose_31 : decode cX7_lose 31 = .ok (.getfield 60, 3) := by decide +kernel
theorem dX7_lose_34 : decode cX7_lose 34 = .ok (.getfield 136, 3) := by decide +kernel
theorem dX7_lose_37 : decode cX7_lose 37 = .ok (.iload_n 1, 1) := by decide +kernel
theorem dX7_lose_38 : decode cX7_lose 38 = .ok (.iconst (-1), 1) := by decide +kernel
theorem dX7_lose_39 : decode cX7_lose 39 = .ok (.invokestatic 101, 3) := by decide +kernel
theorem dX7_lose_42 : decode cX7_lose 42 = .ok (.ireturn, 1) := by decide +kernel
theorem dX7_lay_0 : decode cX7_lay 0 = .ok (.iload_n 1, 1) := by decide +kernel
theorem dX7_lay_1 : decode cX7_lay 1 = .ok (.invokestatic 126, 3) := by decide +kernel
theorem dX7_lay_4 : decode cX7_lay 4 = .ok (.ifCond .ne 10, 3) := by decide +kernel
theorem dX7_lay_7 : decode cX7_lay 7 = .ok (.iload_n 2, 1) := by decide +kernel
theorem dX7_lay_8 : decode cX7_lay 8 = .ok (.invokestatic 208, 3) := by decide +kernel
theorem dX7_lay_11 : decode cX7_lay 11 = .ok (.ifCond .eq 6, 3) := by decide +kernel
theorem dX7_lay_14 : decode cX7_lay 14 = .ok (.bipush (-2), 2) := by decide +kernel
theorem dX7_lay_16 : decode cX7_lay 16 = .ok (.ireturn, 1) := by decide +kernel
theorem dX7_lay_17 : decode cX7_lay 17 = .ok (.aload_n 0, 1) := by decide +kernel
theorem dX7_lay_18 : decode cX7_lay 18 = .ok (.getfield 60, 3) := by decide +kernel
theorem dX7_lay_21 : decode cX7_lay 21 = .ok (.iload_n 1, 1) := by decide +kernel
theorem dX7_lay_22 : decode cX7_lay 22 = .ok (.iload_n 2, 1) := by decide +kernel
theorem dX7_lay_23 : decode cX7_lay 23 = .ok (.iload_n 3, 1) := by decide +kernel
theorem dX7_lay_24 : decode cX7_lay 24 = .ok (.invokevirtual 215, 3) := by decide +kernel
theorem dX7_lay_27 : decode cX7_lay 27 = .ok (.istore 5, 2) := by decide +kernel
theorem dX7_lay_29 : decode cX7_lay 29 = .ok (.iload 5, 2) := by decide +kernel
theorem dX7_lay_31 : decode cX7_lay 31 = .ok (.ifCond .eq 13, 3) := by decide +kernel
theorem dX7_lay_34 : decode cX7_lay 34 = .ok (.aload_n 0, 1) := by decide +kernel
theorem dX7_lay_35 : decode cX7_lay 35 = .ok (.getfield 60, 3) := by decide +kernel
theorem dX7_lay_38 : decode cX7_lay 38 = .ok (.iload 5, 2) := by decide +kernel
theorem dX7_lay_40 : decode cX7_lay 40 = .ok (.invokevirtual 132, 3) := by decide +kernel
theorem dX7_lay_43 : decode cX7_lay 43 = .ok (.ireturn, 1) := by decide +kernel
theorem dX7_lay_44 : decode cX7_lay 44 = .ok (.aload_n 0, 1) := by decide +kernel
theorem dX7_lay_45 : decode cX7_lay 45 = .ok (.getfield 60, 3) := by decide +kernel
theorem dX7_lay_48 : decode cX7_lay 48 = .ok (.iload_n 1, 1) := by decide +kernel
theorem dX7_lay_49 : decode cX7_lay 49 = .ok (.iload_n 3, 1) := by decide +kernel
theorem dX7_lay_50 : decode cX7_lay 50 = .ok (.iload 4, 2) := by decide +kernel
theorem dX7_lay_52 : decode cX7_lay 52 = .ok (.invokevirtual 218, 3) := by decide +kernel
theorem dX7_lay_55 : decode cX7_lay 55 = .ok (.iconst 1, 1) := by decide +kernel
theorem dX7_lay_56 : decode cX7_lay 56 = .ok (.ireturn, 1) := by decide +kernel
theorem dX7_get_0 : decode cX7_get 0 = .ok (.iload_n 1, 1) := by decide +kernel
theorem dX7_get_1 : decode cX7_get 1 = .ok (.invokestatic 126, 3) := by decide +kernel
theorem dX7_get_4 : decode cX7_get 4 = .ok (.ifCond .ne 10, 3) := by decide +kernel
theorem dX7_get_7 : decode cX7_get 7 = .ok (.iload_n 2, 1) := by decide +kernel
theorem dX7_get_8 : decode cX7_get 8 = .ok (.invokestatic 208, 3) := by decide +kernel
theorem dX7_get_11 : decode cX7_get 11 = .ok (.ifCond .eq 6, 3) := by decide +kernel
theorem dX7_get_14 : decode cX7_get 14 = .ok (.ldc 221, 2) := by decide +kernel
theorem dX7_get_16 : decode cX7_get 16 = .ok (.ireturn, 1) := by decide +kernel
theorem dX7_get_17 : decode cX7_get 17 = .ok (.aload_n 0, 1) := by decide +kernel
theorem dX7_get_18 : decode cX7_get 18 = .ok (.getfield 60, 3) := by decide +kernel
theorem dX7_get_21 : decode cX7_get 21 = .ok (.iload_n 1, 1) := by decide +kernel
theorem dX7_get_22 : decode cX7_get 22 = .ok (.iload_n 2, 1) := by decide +kernel
theorem dX7_get_23 : decode cX7_get 23 = .ok (.iload_n 3, 1) := by decide +kernel
theorem dX7_get_24 : decode cX7_get 24 = .ok (.invokevirtual 215, 3) := by decide +kernel
theorem dX7_get_27 : decode cX7_get 27 = .ok (.istore 4, 2) := by decide +kernel
theorem dX7_get_29 : decode cX7_get 29 = .ok (.iload 4, 2) := by decide +kernel
theorem dX7_get_31 : decode cX7_get 31 = .ok (.ifCond .ne 15, 3) := by decide +kernel
theorem dX7_get_34 : decode cX7_get 34 = .ok (.aload_n 0, 1) := by decide +kernel
theorem dX7_get_35 : decode cX7_get 35 = .ok (.getfield 60, 3) := by decide +kernel
theorem dX7_get_38 : decode cX7_get 38 = .ok (.getfield 144, 3) := by decide +kernel
theorem dX7_get_41 : decode cX7_get 41 = .ok (.iload_n 1, 1) := by decide +kernel
theorem dX7_get_42 : decode cX7_get 42 = .ok (.aaload, 1) := by decide +kernel
theorem dX7_get_43 : decode cX7_get 43 = .ok (.iload_n 3, 1) := by decide +kernel
theorem dX7_get_44 : decode cX7_get 44 = .ok (.iaload, 1) := by decide +kernel
theorem dX7_get_45 : decode cX7_get 45 = .ok (.ireturn, 1) := by decide +kernel
theorem dX7_get_46 : decode cX7_get 46 = .ok (.aload_n 0, 1) := by decide +kernel
theorem dX7_get_47 : decode cX7_get 47 = .ok (.getfield 60, 3) := by decide +kernel
theorem dX7_get_50 : decode cX7_get 50 = .ok (.iload 4, 2) := by decide +kernel
theorem dX7_get_52 : decode cX7_get 52 = .ok (.invokevirtual 132, 3) := by decide +kernel
theorem dX7_get_55 : decode cX7_get 55 = .ok (.pop, 1) := by decide +kernel
theorem dX7_get_56 : decode cX7_get 56 = .ok (.ldc 221, 2) := by decide +kernel
theorem dX7_get_58 : decode cX7_get 58 = .ok (.ireturn, 1) := by decide +kernel
theorem dX7_copy_0 : decode cX7_copy 0 = .ok (.iload_n 1, 1) := by decide +kernel
theorem dX7_copy_1 : decode cX7_copy 1 = .ok (.invokestatic 126, 3) := by decide +kernel
theorem dX7_copy_4 : decode cX7_copy 4 = .ok (.ifCond .ne 10, 3) := by decide +kernel
theorem dX7_copy_7 : decode cX7_copy 7 = .ok (.iload_n 3, 1) := by decide +kernel
theorem dX7_copy_8 : decode cX7_copy 8 = .ok (.invokestatic 126, 3) := by decide +kernel
theorem dX7_copy_11 : decode cX7_copy 11 = .ok (.ifCond .eq 6, 3) := by decide +kernel
theorem dX7_copy_14 : decode cX7_copy 14 = .ok (.bipush (-2), 2) := by decide +kernel
theorem dX7_copy_16 : decode cX7_copy 16 = .ok (.ireturn, 1) := by decide +kernel
theorem dX7_copy_17 : decode cX7_copy 17 = .ok (.aload_n 0, 1) := by decide +kernel
theorem dX7_copy_18 : decode cX7_copy 18 = .ok (.getfield 60, 3) := by decide +kernel
theorem dX7_copy_21 : decode cX7_copy 21 = .ok (.iload_n 1, 1) := by decide +kernel
theorem dX7_copy_22 : decode cX7_copy 22 = .ok (.invokevirtual 129, 3) := by decide +kernel
theorem dX7_copy_25 : decode cX7_copy 25 = .ok (.ifCond .ne 14, 3) := by decide +kernel
theorem dX7_copy_28 : decode cX7_copy 28 = .ok (.aload_n 0, 1) := by decide +kernel
theorem dX7_copy_29 : decode cX7_copy 29 = .ok (.getfield 60, 3) := by decide +kernel
theorem dX7_copy_32 : decode cX7_copy 32 = .ok (.iload_n 3, 1) := by decide +kernel
theorem dX7_copy_33 : decode cX7_copy 33 = .ok (.invokevirtual 129, 3) := by decide +kernel
theorem dX7_copy_36 : decode cX7_copy 36 = .ok (.ifCond .eq 12, 3) := by decide +kernel
theorem dX7_copy_39 : decode cX7_copy 39 = .ok (.aload_n 0, 1) := by decide +kernel
theorem dX7_copy_40 : decode cX7_copy 40 = .ok (.getfield 60, 3) := by decide +kernel
theorem dX7_copy_43 : decode cX7_copy 43 = .ok (.iconst 1, 1) := by decide +kernel
theorem dX7_copy_44 : decode cX7_copy 44 = .ok (.invokevirtual 132, 3) := by decide +kernel
theorem dX7_copy_47 : decode cX7_copy 47 = .ok (.ireturn, 1) := by decide +kernel
theorem dX7_copy_48 : decode cX7_copy 48 = .ok (.aload_n 0, 1) := by decide +kernel
theorem dX7_copy_49 : decode cX7_copy 49 = .ok (.getfield 60, 3) := by decide +kernel
theorem dX7_copy_52 : decode cX7_copy 52 = .ok (.getfield 222, 3) := by decide +kernel
theorem dX7_copy_55 : decode cX7_copy 55 = .ok (.iload_n 1, 1) := by decide +kernel
theorem dX7_copy_56 : decode cX7_copy 56 = .ok (.iaload, 1) := by decide +kernel
theorem dX7_copy_57 : decode cX7_copy 57 = .ok (.aload_n 0, 1) := by decide +kernel
theorem dX7_copy_58 : decode cX7_copy 58 = .ok (.getfield 60, 3) := by decide +kernel
theorem dX7_copy_61 : decode cX7_copy 61 = .ok (.getfield 222, 3) := by decide +kernel
theorem dX7_copy_64 : decode cX7_copy 64 = .ok (.iload_n 3, 1) := by decide +kernel
theorem dX7_copy_65 : decode cX7_copy 65 = .ok (.iaload, 1) := by decide +kernel
theorem dX7_copy_66 : decode cX7_copy 66 = .ok (.if_icmp .eq 12, 3) := by decide +kernel
theorem dX7_copy_69 : decode cX7_copy 69 = .ok (.aload_n 0, 1) := by decide +kernel
theorem dX7_copy_70 : decode cX7_copy 70 = .ok (.getfield 60, 3) := by decide +kernel
theorem dX7_copy_73 : decode cX7_copy 73 = .ok (.iconst 4, 1) := by decide +kernel
theorem dX7_copy_74 : decode cX7_copy 74 = .ok (.invokevirtual 132, 3) := by decide +kernel
theorem dX7_copy_77 : decode cX7_copy 77 = .ok (.ireturn, 1) := by decide +kernel
theorem dX7_copy_78 : decode cX7_copy 78 = .ok (.aload_n 0, 1) := by decide +kernel
theorem dX7_copy_79 : decode cX7_copy 79 = .ok (.getfield 60, 3) := by decide +kernel
theorem dX7_copy_82 : decode cX7_copy 82 = .ok (.iload_n 1, 1) := by decide +kernel
theorem dX7_copy_83 : decode cX7_copy 83 = .ok (.iload_n 2, 1) := by decide +kernel
theorem dX7_copy_84 : decode cX7_copy 84 = .ok (.iload 5, 2) := by decide +kernel
theorem dX7_copy_86 : decode cX7_copy 86 = .ok (.invokevirtual 225, 3) := by decide +kernel
theorem dX7_copy_89 : decode cX7_copy 89 = .ok (.ifCond .eq 18, 3) := by decide +kernel
theorem dX7_copy_92 : decode cX7_copy 92 = .ok (.aload_n 0, 1) := by decide +kernel
theorem dX7_copy_93 : decode cX7_copy 93 = .ok (.getfield 60, 3) := by decide +kernel
theorem dX7_copy_96 : decode cX7_copy 96 = .ok (.iload_n 3, 1) := by decide +kernel
theorem dX7_copy_97 : decode cX7_copy 97 = .ok (.iload 4, 2) := by decide +kernel
theorem dX7_copy_99 : decode cX7_copy 99 = .ok (.iload 5, 2) := by decide +kernel
theorem dX7_copy_101 : decode cX7_copy 101 = .ok (.invokevirtual 225, 3) := by decide +kernel
theorem dX7_copy_104 : decode cX7_copy 104 = .ok (.ifCond .ne 12, 3) := by decide +kernel
theorem dX7_copy_107 : decode cX7_copy 107 = .ok (.aload_n 0, 1) := by decide +kernel
theorem dX7_copy_108 : decode cX7_copy 108 = .ok (.getfield 60, 3) := by decide +kernel
theorem dX7_copy_111 : decode cX7_copy 111 = .ok (.iconst 2, 1) := by decide +kernel
theorem dX7_copy_112 : decode cX7_copy 112 = .ok (.invokevirtual 132, 3) := by decide +kernel
theorem dX7_copy_115 : decode cX7_copy 115 = .ok (.ireturn, 1) := by decide +kernel
theorem dX7_copy_116 : decode cX7_copy 116 = .ok (.aload_n 0, 1) := by decide +kernel
theorem dX7_copy_117 : decode cX7_copy 117 = .ok (.getfield 60, 3) := by decide +kernel
theorem dX7_copy_120 : decode cX7_copy 120 = .ok (.getfield 144, 3) := by decide +kernel
theorem dX7_copy_123 : decode cX7_copy 123 = .ok (.iload_n 1, 1) := by decide +kernel
theorem dX7_copy_124 : decode cX7_copy 124 = .ok (.aaload, 1) := by decide +kernel
theorem dX7_copy_125 : decode cX7_copy 125 = .ok (.iload_n 2, 1) := by decide +kernel
theorem dX7_copy_126 : decode cX7_copy 126 = .ok (.aload_n 0, 1) := by decide +kernel
theorem dX7_copy_127 : decode cX7_copy 127 = .ok (.getfield 60, 3) := by decide +kernel
theorem dX7_copy_130 : decode cX7_copy 130 = .ok (.getfield 144, 3) := by decide +kernel
theorem dX7_copy_133 : decode cX7_copy 133 = .ok (.iload_n 3, 1) := by decide +kernel
theorem dX7_copy_134 : decode cX7_copy 134 = .ok (.aaload, 1) := by decide +kernel
theorem dX7_copy_135 : decode cX7_copy 135 = .ok (.iload 4, 2) := by decide +kernel
theorem dX7_copy_137 : decode cX7_copy 137 = .ok (.iload 5, 2) := by decide +kernel
theorem dX7_copy_139 : decode cX7_copy 139 = .ok (.invokestatic 228, 3) := by decide +kernel
theorem dX7_copy_142 : decode cX7_copy 142 = .ok (.iconst 1, 1) := by decide +kernel
theorem dX7_copy_143 : decode cX7_copy 143 = .ok (.ireturn, 1) := by decide +kernel
theorem dX7_write_0 : decode cX7_write 0 = .ok (.iload_n 1, 1) := by decide +kernel
theorem dX7_write_1 : decode cX7_write 1 = .ok (.invokestatic 126, 3) := by decide +kernel
theorem dX7_write_4 : decode cX7_write 4 = .ok (.ifCond .eq 6, 3) := by decide +kernel
theorem dX7_write_7 : decode cX7_write 7 = .ok (.bipush (-2), 2) := by decide +kernel
theorem dX7_write_9 : decode cX7_write 9 = .ok (.ireturn, 1) := by decide +kernel
theorem dX7_write_10 : decode cX7_write 10 = .ok (.aload_n 0, 1) := by decide +kernel
theorem dX7_write_11 : decode cX7_write 11 = .ok (.getfield 60, 3) := by decide +kernel
theorem dX7_write_14 : decode cX7_write 14 = .ok (.iload_n 1, 1) := by decide +kernel
theorem dX7_write_15 : decode cX7_write 15 = .ok (.invokevirtual 129, 3) := by decide +kernel
theorem dX7_write_18 : decode cX7_write 18 = .ok (.ifCond .eq 12, 3) := by decide +kernel
theorem dX7_write_21 : decode cX7_write 21 = .ok (.aload_n 0, 1) := by decide +kernel
theorem dX7_write_22 : decode cX7_write 22 = .ok (.getfield 60, 3) := by decide +kernel
theorem dX7_write_25 : decode cX7_write 25 = .ok (.iconst 1, 1) := by decide +kernel
theorem dX7_write_26 : decode cX7_write 26 = .ok (.invokevirtual 132, 3) := by decide +kernel
theorem dX7_write_29 : decode cX7_write 29 = .ok (.ireturn, 1) := by decide +kernel
theorem dX7_write_30 : decode cX7_write 30 = .ok (.aload_n 0, 1) := by decide +kernel
theorem dX7_write_31 : decode cX7_write 31 = .ok (.getfield 30, 3) := by decide +kernel
theorem dX7_write_34 : decode cX7_write 34 = .ok (.invokevirtual 152, 3) := by decide +kernel
theorem dX7_write_37 : decode cX7_write 37 = .ok (.ifCond .eq 6, 3) := by decide +kernel
theorem dX7_write_40 : decode cX7_write 40 = .ok (.bipush (-3), 2) := by decide +kernel
theorem dX7_write_42 : decode cX7_write 42 = .ok (.ireturn, 1) := by decide +kernel
theorem dX7_write_43 : decode cX7_write 43 = .ok (.iconst 4, 1) := by decide +kernel
theorem dX7_write_44 : decode cX7_write 44 = .ok (.aload_n 0, 1) := by decide +kernel
theorem dX7_write_45 : decode cX7_write 45 = .ok (.getfield 60, 3) := by decide +kernel
theorem dX7_write_48 : decode cX7_write 48 = .ok (.getfield 136, 3) := by decide +kernel
theorem dX7_write_51 : decode cX7_write 51 = .ok (.iload_n 1, 1) := by decide +kernel
theorem dX7_write_52 : decode cX7_write 52 = .ok (.iaload, 1) := by decide +kernel
theorem dX7_write_53 : decode cX7_write 53 = .ok (.invokestatic 139, 3) := by decide +kernel
theorem dX7_write_56 : decode cX7_write 56 = .ok (.istore_n 2, 1) := by decide +kernel
theorem dX7_write_57 : decode cX7_write 57 = .ok (.iconst 0, 1) := by decide +kernel
theorem dX7_write_58 : decode cX7_write 58 = .ok (.istore_n 3, 1) := by decide +kernel
theorem dX7_write_59 : decode cX7_write 59 = .ok (.iload_n 3, 1) := by decide +kernel
theorem dX7_write_60 : decode cX7_write 60 = .ok (.iload_n 2, 1) := by decide +kernel
theorem dX7_write_61 : decode cX7_write 61 = .ok (.if_icmp .ge 26, 3) := by decide +kernel
theorem dX7_write_64 : decode cX7_write 64 = .ok (.aload_n 0, 1) := by decide +kernel
theorem dX7_write_65 : decode cX7_write 65 = .ok (.getfield 60, 3) := by decide +kernel
theorem dX7_write_68 : decode cX7_write 68 = .ok (.iload_n 1, 1) := by decide +kernel
theorem dX7_write_69 : decode cX7_write 69 = .ok (.iload_n 3, 1) := by decide +kernel
theorem dX7_write_70 : decode cX7_write 70 = .ok (.aload_n 0, 1) := by decide +kernel
theorem dX7_write_71 : decode cX7_write 71 = .ok (.getfield 30, 3) := by decide +kernel
theorem dX7_write_74 : decode cX7_write 74 = .ok (.iload_n 3, 1) := by decide +kernel
theorem dX7_write_75 : decode cX7_write 75 = .ok (.invokevirtual 168, 3) := by decide +kernel
theorem dX7_write_78 : decode cX7_write 78 = .ok (.invokevirtual 218, 3) := by decide +kernel
theorem dX7_write_81 : decode cX7_write 81 = .ok (.iinc 3 1, 3) := by decide +kernel
theorem dX7_write_84 : decode cX7_write 84 = .ok (.goto (-25), 3) := by decide +kernel
theorem dX7_write_87 : decode cX7_write 87 = .ok (.iload_n 2, 1) := by decide +kernel
theorem dX7_write_88 : decode cX7_write 88 = .ok (.ireturn, 1) := by decide +kernel
theorem dX7_count_0 : decode cX7_count 0 = .ok (.iload_n 1, 1) := by decide +kernel
theorem dX7_count_1 : decode cX7_count 1 = .ok (.tableswitch 115 0 8 #[51, 59, 67, 77, 77, 77, 89, 97, 107], 51) := by decide +kernel
theorem dX7_count_52 : decode cX7_count 52 = .ok (.aload_n 0, 1) := by decide +kernel
theorem dX7_count_53 : decode cX7_count 53 = .ok (.getfield 10, 3) := by decide +kernel
theorem dX7_count_56 : decode cX7_count 56 = .ok (.getfield 234, 3) := by decide +kernel
theorem dX7_count_59 : decode cX7_count 59 = .ok (.ireturn, 1) := by decide +kernel
theorem dX7_count_60 : decode cX7_count 60 = .ok (.aload_n 0, 1) := by decide +kernel
theorem dX7_count_61 : decode cX7_count 61 = .ok (.getfield 10, 3) := by decide +kernel
theorem dX7_count_64 : decode cX7_count 64 = .ok (.getfield 72, 3) := by decide +kernel
theorem dX7_count_67 : decode cX7_count 67 = .ok (.ireturn, 1) := by decide +kernel
theorem dX7_count_68 : decode cX7_count 68 = .ok (.aload_n 0, 1) := by decide +kernel
theorem dX7_count_69 : decode cX7_count 69 = .ok (.getfield 21, 3) := by decide +kernel
theorem dX7_count_72 : decode cX7_count 72 = .ok (.getfield 194, 3) := by decide +kernel
theorem dX7_count_75 : decode cX7_count 75 = .ok (.iconst 0, 1) := by decide +kernel
theorem dX7_count_76 : decode cX7_count 76 = .ok (.iaload, 1) := by decide +kernel
theorem dX7_count_77 : decode cX7_count 77 = .ok (.ireturn, 1) := by decide +kernel
theorem dX7_count_78 : decode cX7_count 78 = .ok (.aload_n 0, 1) := by decide +kernel
theorem dX7_count_79 : decode cX7_count 79 = .ok (.getfield 30, 3) := by decide +kernel
theorem dX7_count_82 : decode cX7_count 82 = .ok (.getfield 120, 3) := by decide +kernel
theorem dX7_count_85 : decode cX7_count 85 = .ok (.iload_n 1, 1) := by decide +kernel
theorem dX7_count_86 : decode cX7_count 86 = .ok (.iconst 3, 1) := by decide +kernel
theorem dX7_count_87 : decode cX7_count 87 = .ok (.isub, 1) := by decide +kernel
theorem dX7_count_88 : decode cX7_count 88 = .ok (.iaload, 1) := by decide +kernel
theorem dX7_count_89 : decode cX7_count 89 = .ok (.ireturn, 1) := by decide +kernel
theorem dX7_count_90 : decode cX7_count 90 = .ok (.aload_n 0, 1) := by decide +kernel
theorem dX7_count_91 : decode cX7_count 91 = .ok (.getfield 30, 3) := by decide +kernel
theorem dX7_count_94 : decode cX7_count 94 = .ok (.invokevirtual 237, 3) := by decide +kernel
theorem dX7_count_97 : decode cX7_count 97 = .ok (.ireturn, 1) := by decide +kernel
theorem dX7_count_98 : decode cX7_count 98 = .ok (.aload_n 0, 1) := by decide +kernel
theorem dX7_count_99 : decode cX7_count 99 = .ok (.getfield 21, 3) := by decide +kernel
theorem dX7_count_102 : decode cX7_count 102 = .ok (.getfield 194, 3) := by decide +kernel
theorem dX7_count_105 : decode cX7_count 105 = .ok (.iconst 2, 1) := by decide +kernel
theorem dX7_count_106 : decode cX7_count 106 = .ok (.iaload, 1) := by decide +kernel
theorem dX7_count_107 : decode cX7_count 107 = .ok (.ireturn, 1) := by decide +kernel
theorem dX7_count_108 : decode cX7_count 108 = .ok (.aload_n 0, 1) := by decide +kernel
theorem dX7_count_109 : decode cX7_count 109 = .ok (.getfield 60, 3) := by decide +kernel
theorem dX7_count_112 : decode cX7_count 112 = .ok (.getfield 240, 3) := by decide +kernel
theorem dX7_count_115 : decode cX7_count 115 = .ok (.ireturn, 1) := by decide +kernel
theorem dX7_count_116 : decode cX7_count 116 = .ok (.bipush (-2), 2) := by decide +kernel
theorem dX7_count_118 : decode cX7_count 118 = .ok (.ireturn, 1) := by decide +kernel
theorem dX7_digest_0 : decode cX7_digest 0 = .ok (.ldc2_w 243, 3) := by decide +kernel
theorem dX7_digest_3 : decode cX7_digest 3 = .ok (.lstore_n 1, 1) := by decide +kernel
theorem dX7_digest_4 : decode cX7_digest 4 = .ok (.iconst 0, 1) := by decide +kernel
theorem dX7_digest_5 : decode cX7_digest 5 = .ok (.istore_n 3, 1) := by decide +kernel
theorem dX7_digest_6 : decode cX7_digest 6 = .ok (.iload_n 3, 1) := by decide +kernel
theorem dX7_digest_7 : decode cX7_digest 7 = .ok (.bipush 7, 2) := by decide +kernel
theorem dX7_digest_9 : decode cX7_digest 9 = .ok (.if_icmp .gt 22, 3) := by decide +kernel
theorem dX7_digest_12 : decode cX7_digest 12 = .ok (.ldc2_w 245, 3) := by decide +kernel
theorem dX7_digest_15 : decode cX7_digest 15 = .ok (.lload_n 1, 1) := by decide +kernel
theorem dX7_digest_16 : decode cX7_digest 16 = .ok (.lmul, 1) := by decide +kernel
theorem dX7_digest_17 : decode cX7_digest 17 = .ok (.aload_n 0, 1) := by decide +kernel
theorem dX7_digest_18 : decode cX7_digest 18 = .ok (.iload_n 3, 1) := by decide +kernel
theorem dX7_digest_19 : decode cX7_digest 19 = .ok (.invokevirtual 247, 3) := by decide +kernel
theorem dX7_digest_22 : decode cX7_digest 22 = .ok (.i2l, 1) := by decide +kernel
theorem dX7_digest_23 : decode cX7_digest 23 = .ok (.ladd, 1) := by decide +kernel
theorem dX7_digest_24 : decode cX7_digest 24 = .ok (.lstore_n 1, 1) := by decide +kernel
theorem dX7_digest_25 : decode cX7_digest 25 = .ok (.iinc 3 1, 3) := by decide +kernel
theorem dX7_digest_28 : decode cX7_digest 28 = .ok (.goto (-22), 3) := by decide +kernel
theorem dX7_digest_31 : decode cX7_digest 31 = .ok (.ldc2_w 245, 3) := by decide +kernel
theorem dX7_digest_34 : decode cX7_digest 34 = .ok (.lload_n 1, 1) := by decide +kernel
theorem dX7_digest_35 : decode cX7_digest 35 = .ok (.lmul, 1) := by decide +kernel
theorem dX7_digest_36 : decode cX7_digest 36 = .ok (.aload_n 0, 1) := by decide +kernel
theorem dX7_digest_37 : decode cX7_digest 37 = .ok (.invokevirtual 249, 3) := by decide +kernel
theorem dX7_digest_40 : decode cX7_digest 40 = .ok (.i2l, 1) := by decide +kernel
theorem dX7_digest_41 : decode cX7_digest 41 = .ok (.ladd, 1) := by decide +kernel
theorem dX7_digest_42 : decode cX7_digest 42 = .ok (.lstore_n 1, 1) := by decide +kernel
theorem dX7_digest_43 : decode cX7_digest 43 = .ok (.iconst 0, 1) := by decide +kernel
theorem dX7_digest_44 : decode cX7_digest 44 = .ok (.istore_n 3, 1) := by decide +kernel
theorem dX7_digest_45 : decode cX7_digest 45 = .ok (.iload_n 3, 1) := by decide +kernel
theorem dX7_digest_46 : decode cX7_digest 46 = .ok (.aload_n 0, 1) := by decide +kernel
theorem dX7_digest_47 : decode cX7_digest 47 = .ok (.getfield 10, 3) := by decide +kernel
theorem dX7_digest_50 : decode cX7_digest 50 = .ok (.getfield 234, 3) := by decide +kernel
theorem dX7_digest_53 : decode cX7_digest 53 = .ok (.if_icmp .ge 55, 3) := by decide +kernel
theorem dX7_digest_56 : decode cX7_digest 56 = .ok (.iconst 0, 1) := by decide +kernel
theorem dX7_digest_57 : decode cX7_digest 57 = .ok (.istore 4, 2) := by decide +kernel
theorem dX7_digest_59 : decode cX7_digest 59 = .ok (.iload 4, 2) := by decide +kernel
theorem dX7_digest_61 : decode cX7_digest 61 = .ok (.iconst 3, 1) := by decide +kernel
theorem dX7_digest_62 : decode cX7_digest 62 = .ok (.if_icmp .gt 24, 3) := by decide +kernel
theorem dX7_digest_65 : decode cX7_digest 65 = .ok (.ldc2_w 245, 3) := by decide +kernel
theorem dX7_digest_68 : decode cX7_digest 68 = .ok (.lload_n 1, 1) := by decide +kernel
theorem dX7_digest_69 : decode cX7_digest 69 = .ok (.lmul, 1) := by decide +kernel
theorem dX7_digest_70 : decode cX7_digest 70 = .ok (.aload_n 0, 1) := by decide +kernel
theorem dX7_digest_71 : decode cX7_digest 71 = .ok (.iload_n 3, 1) := by decide +kernel
theorem dX7_digest_72 : decode cX7_digest 72 = .ok (.iload 4, 2) := by decide +kernel
theorem dX7_digest_74 : decode cX7_digest 74 = .ok (.invokevirtual 251, 3) := by decide +kernel
theorem dX7_digest_77 : decode cX7_digest 77 = .ok (.i2l, 1) := by decide +kernel
theorem dX7_digest_78 : decode cX7_digest 78 = .ok (.ladd, 1) := by decide +kernel
theorem dX7_digest_79 : decode cX7_digest 79 = .ok (.lstore_n 1, 1) := by decide +kernel
theorem dX7_digest_80 : decode cX7_digest 80 = .ok (.iinc 4 1, 3) := by decide +kernel
theorem dX7_digest_83 : decode cX7_digest 83 = .ok (.goto (-24), 3) := by decide +kernel
theorem dX7_digest_86 : decode cX7_digest 86 = .ok (.ldc2_w 245, 3) := by decide +kernel
theorem dX7_digest_89 : decode cX7_digest 89 = .ok (.lload_n 1, 1) := by decide +kernel
theorem dX7_digest_90 : decode cX7_digest 90 = .ok (.lmul, 1) := by decide +kernel
theorem dX7_digest_91 : decode cX7_digest 91 = .ok (.aload_n 0, 1) := by decide +kernel
theorem dX7_digest_92 : decode cX7_digest 92 = .ok (.iload_n 3, 1) := by decide +kernel
theorem dX7_digest_93 : decode cX7_digest 93 = .ok (.iconst 1, 1) := by decide +kernel
theorem dX7_digest_94 : decode cX7_digest 94 = .ok (.bipush 50, 2) := by decide +kernel
theorem dX7_digest_96 : decode cX7_digest 96 = .ok (.invokevirtual 254, 3) := by decide +kernel
theorem dX7_digest_99 : decode cX7_digest 99 = .ok (.i2l, 1) := by decide +kernel
theorem dX7_digest_100 : decode cX7_digest 100 = .ok (.ladd, 1) := by decide +kernel
theorem dX7_digest_101 : decode cX7_digest 101 = .ok (.lstore_n 1, 1) := by decide +kernel
theorem dX7_digest_102 : decode cX7_digest 102 = .ok (.iinc 3 1, 3) := by decide +kernel
theorem dX7_digest_105 : decode cX7_digest 105 = .ok (.goto (-60), 3) := by decide +kernel
theorem dX7_digest_108 : decode cX7_digest 108 = .ok (.iconst 0, 1) := by decide +kernel
theorem dX7_digest_109 : decode cX7_digest 109 = .ok (.istore_n 3, 1) := by decide +kernel
theorem dX7_digest_110 : decode cX7_digest 110 = .ok (.iload_n 3, 1) := by decide +kernel
theorem dX7_digest_111 : decode cX7_digest 111 = .ok (.iconst 4, 1) := by decide +kernel
theorem dX7_digest_112 : decode cX7_digest 112 = .ok (.if_icmp .ge 50, 3) := by decide +kernel
theorem dX7_digest_115 : decode cX7_digest 115 = .ok (.ldc2_w 245, 3) := by decide +kernel
theorem dX7_digest_118 : decode cX7_digest 118 = .ok (.lload_n 1, 1) := by decide +kernel
theorem dX7_digest_119 : decode cX7_digest 119 = .ok (.lmul, 1) := by decide +kernel
theorem dX7_digest_120 : decode cX7_digest 120 = .ok (.aload_n 0, 1) := by decide +kernel
theorem dX7_digest_121 : decode cX7_digest 121 = .ok (.iload_n 3, 1) := by decide +kernel
theorem dX7_digest_122 : decode cX7_digest 122 = .ok (.iconst 0, 1) := by decide +kernel
theorem dX7_digest_123 : decode cX7_digest 123 = .ok (.invokevirtual 257, 3) := by decide +kernel
theorem dX7_digest_126 : decode cX7_digest 126 = .ok (.i2l, 1) := by decide +kernel
theorem dX7_digest_127 : decode cX7_digest 127 = .ok (.ladd, 1) := by decide +kernel
theorem dX7_digest_128 : decode cX7_digest 128 = .ok (.lstore_n 1, 1) := by decide +kernel
theorem dX7_digest_129 : decode cX7_digest 129 = .ok (.ldc2_w 245, 3) := by decide +kernel
theorem dX7_digest_132 : decode cX7_digest 132 = .ok (.lload_n 1, 1) := by decide +kernel
theorem dX7_digest_133 : decode cX7_digest 133 = .ok (.lmul, 1) := by decide +kernel
theorem dX7_digest_134 : decode cX7_digest 134 = .ok (.aload_n 0, 1) := by decide +kernel
theorem dX7_digest_135 : decode cX7_digest 135 = .ok (.iload_n 3, 1) := by decide +kernel
theorem dX7_digest_136 : decode cX7_digest 136 = .ok (.iconst 1, 1) := by decide +kernel
theorem dX7_digest_137 : decode cX7_digest 137 = .ok (.invokevirtual 257, 3) := by decide +kernel
theorem dX7_digest_140 : decode cX7_digest 140 = .ok (.i2l, 1) := by decide +kernel
theorem dX7_digest_141 : decode cX7_digest 141 = .ok (.ladd, 1) := by decide +kernel
theorem dX7_digest_142 : decode cX7_digest 142 = .ok (.lstore_n 1, 1) := by decide +kernel
theorem dX7_digest_143 : decode cX7_digest 143 = .ok (.ldc2_w 245, 3) := by decide +kernel
theorem dX7_digest_146 : decode cX7_digest 146 = .ok (.lload_n 1, 1) := by decide +kernel
theorem dX7_digest_147 : decode cX7_digest 147 = .ok (.lmul, 1) := by decide +kernel
theorem dX7_digest_148 : decode cX7_digest 148 = .ok (.aload_n 0, 1) := by decide +kernel
theorem dX7_digest_149 : decode cX7_digest 149 = .ok (.iload_n 3, 1) := by decide +kernel
theorem dX7_digest_150 : decode cX7_digest 150 = .ok (.invokevirtual 260, 3) := by decide +kernel
theorem dX7_digest_153 : decode cX7_digest 153 = .ok (.i2l, 1) := by decide +kernel
theorem dX7_digest_154 : decode cX7_digest 154 = .ok (.ladd, 1) := by decide +kernel
theorem dX7_digest_155 : decode cX7_digest 155 = .ok (.lstore_n 1, 1) := by decide +kernel
theorem dX7_digest_156 : decode cX7_digest 156 = .ok (.iinc 3 1, 3) := by decide +kernel
theorem dX7_digest_159 : decode cX7_digest 159 = .ok (.goto (-49), 3) := by decide +kernel
theorem dX7_digest_162 : decode cX7_digest 162 = .ok (.iconst 0, 1) := by decide +kernel
theorem dX7_digest_163 : decode cX7_digest 163 = .ok (.istore_n 3, 1) := by decide +kernel
theorem dX7_digest_164 : decode cX7_digest 164 = .ok (.iload_n 3, 1) := by decide +kernel
theorem dX7_digest_165 : decode cX7_digest 165 = .ok (.iconst 3, 1) := by decide +kernel
theorem dX7_digest_166 : decode cX7_digest 166 = .ok (.if_icmp .ge 90, 3) := by decide +kernel
theorem dX7_digest_169 : decode cX7_digest 169 = .ok (.ldc2_w 245, 3) := by decide +kernel
theorem dX7_digest_172 : decode cX7_digest 172 = .ok (.lload_n 1, 1) := by decide +kernel
theorem dX7_digest_173 : decode cX7_digest 173 = .ok (.lmul, 1) := by decide +kernel
theorem dX7_digest_174 : decode cX7_digest 174 = .ok (.aload_n 0, 1) := by decide +kernel
theorem dX7_digest_175 : decode cX7_digest 175 = .ok (.iload_n 3, 1) := by decide +kernel
theorem dX7_digest_176 : decode cX7_digest 176 = .ok (.invokevirtual 263, 3) := by decide +kernel
theorem dX7_digest_179 : decode cX7_digest 179 = .ok (.i2l, 1) := by decide +kernel
theorem dX7_digest_180 : decode cX7_digest 180 = .ok (.ladd, 1) := by decide +kernel
theorem dX7_digest_181 : decode cX7_digest 181 = .ok (.lstore_n 1, 1) := by decide +kernel
theorem dX7_digest_182 : decode cX7_digest 182 = .ok (.ldc2_w 245, 3) := by decide +kernel
theorem dX7_digest_185 : decode cX7_digest 185 = .ok (.lload_n 1, 1) := by decide +kernel
theorem dX7_digest_186 : decode cX7_digest 186 = .ok (.lmul, 1) := by decide +kernel
theorem dX7_digest_187 : decode cX7_digest 187 = .ok (.aload_n 0, 1) := by decide +kernel
theorem dX7_digest_188 : decode cX7_digest 188 = .ok (.iload_n 3, 1) := by decide +kernel
theorem dX7_digest_189 : decode cX7_digest 189 = .ok (.invokevirtual 266, 3) := by decide +kernel
theorem dX7_digest_192 : decode cX7_digest 192 = .ok (.i2l, 1) := by decide +kernel
theorem dX7_digest_193 : decode cX7_digest 193 = .ok (.ladd, 1) := by decide +kernel
theorem dX7_digest_194 : decode cX7_digest 194 = .ok (.lstore_n 1, 1) := by decide +kernel
theorem dX7_digest_195 : decode cX7_digest 195 = .ok (.ldc2_w 245, 3) := by decide +kernel
theorem dX7_digest_198 : decode cX7_digest 198 = .ok (.lload_n 1, 1) := by decide +kernel
theorem dX7_digest_199 : decode cX7_digest 199 = .ok (.lmul, 1) := by decide +kernel
theorem dX7_digest_200 : decode cX7_digest 200 = .ok (.aload_n 0, 1) := by decide +kernel
theorem dX7_digest_201 : decode cX7_digest 201 = .ok (.iload_n 3, 1) := by decide +kernel
theorem dX7_digest_202 : decode cX7_digest 202 = .ok (.invokevirtual 269, 3) := by decide +kernel
theorem dX7_digest_205 : decode cX7_digest 205 = .ok (.i2l, 1) := by decide +kernel
theorem dX7_digest_206 : decode cX7_digest 206 = .ok (.ladd, 1) := by decide +kernel
theorem dX7_digest_207 : decode cX7_digest 207 = .ok (.lstore_n 1, 1) := by decide +kernel
theorem dX7_digest_208 : decode cX7_digest 208 = .ok (.ldc2_w 245, 3) := by decide +kernel
theorem dX7_digest_211 : decode cX7_digest 211 = .ok (.lload_n 1, 1) := by decide +kernel
theorem dX7_digest_212 : decode cX7_digest 212 = .ok (.lmul, 1) := by decide +kernel
theorem dX7_digest_213 : decode cX7_digest 213 = .ok (.aload_n 0, 1) := by decide +kernel
theorem dX7_digest_214 : decode cX7_digest 214 = .ok (.iload_n 3, 1) := by decide +kernel
theorem dX7_digest_215 : decode cX7_digest 215 = .ok (.bipush 10, 2) := by decide +kernel
theorem dX7_digest_217 : decode cX7_digest 217 = .ok (.invokevirtual 272, 3) := by decide +kernel
theorem dX7_digest_220 : decode cX7_digest 220 = .ok (.i2l, 1) := by decide +kernel
theorem dX7_digest_221 : decode cX7_digest 221 = .ok (.ladd, 1) := by decide +kernel
theorem dX7_digest_222 : decode cX7_digest 222 = .ok (.lstore_n 1, 1) := by decide +kernel
theorem dX7_digest_223 : decode cX7_digest 223 = .ok (.ldc2_w 245, 3) := by decide +kernel
theorem dX7_digest_226 : decode cX7_digest 226 = .ok (.lload_n 1, 1) := by decide +kernel
theorem dX7_digest_227 : decode cX7_digest 227 = .ok (.lmul, 1) := by decide +kernel
theorem dX7_digest_228 : decode cX7_digest 228 = .ok (.aload_n 0, 1) := by decide +kernel
theorem dX7_digest_229 : decode cX7_digest 229 = .ok (.iload_n 3, 1) := by decide +kernel
theorem dX7_digest_230 : decode cX7_digest 230 = .ok (.invokevirtual 275, 3) := by decide +kernel
theorem dX7_digest_233 : decode cX7_digest 233 = .ok (.i2l, 1) := by decide +kernel
theorem dX7_digest_234 : decode cX7_digest 234 = .ok (.ladd, 1) := by decide +kernel
theorem dX7_digest_235 : decode cX7_digest 235 = .ok (.lstore_n 1, 1) := by decide +kernel
theorem dX7_digest_236 : decode cX7_digest 236 = .ok (.ldc2_w 245, 3) := by decide +kernel
theorem dX7_digest_239 : decode cX7_digest 239 = .ok (.lload_n 1, 1) := by decide +kernel
theorem dX7_digest_240 : decode cX7_digest 240 = .ok (.lmul, 1) := by decide +kernel
theorem dX7_digest_241 : decode cX7_digest 241 = .ok (.aload_n 0, 1) := by decide +kernel
theorem dX7_digest_242 : decode cX7_digest 242 = .ok (.iload_n 3, 1) := by decide +kernel
theorem dX7_digest_243 : decode cX7_digest 243 = .ok (.iconst 5, 1) := by decide +kernel
theorem dX7_digest_244 : decode cX7_digest 244 = .ok (.invokevirtual 278, 3) := by decide +kernel
theorem dX7_digest_247 : decode cX7_digest 247 = .ok (.i2l, 1) := by decide +kernel
theorem dX7_digest_248 : decode cX7_digest 248 = .ok (.ladd, 1) := by decide +kernel
theorem dX7_digest_249 : decode cX7_digest 249 = .ok (.lstore_n 1, 1) := by decide +kernel
theorem dX7_digest_250 : decode cX7_digest 250 = .ok (.iinc 3 1, 3) := by decide +kernel
theorem dX7_digest_253 : decode cX7_digest 253 = .ok (.goto (-89), 3) := by decide +kernel
theorem dX7_digest_256 : decode cX7_digest 256 = .ok (.ldc2_w 245, 3) := by decide +kernel
theorem dX7_digest_259 : decode cX7_digest 259 = .ok (.lload_n 1, 1) := by decide +kernel
theorem dX7_digest_260 : decode cX7_digest 260 = .ok (.lmul, 1) := by decide +kernel
theorem dX7_digest_261 : decode cX7_digest 261 = .ok (.aload_n 0, 1) := by decide +kernel
theorem dX7_digest_262 : decode cX7_digest 262 = .ok (.invokevirtual 281, 3) := by decide +kernel
theorem dX7_digest_265 : decode cX7_digest 265 = .ok (.i2l, 1) := by decide +kernel
theorem dX7_digest_266 : decode cX7_digest 266 = .ok (.ladd, 1) := by decide +kernel
theorem dX7_digest_267 : decode cX7_digest 267 = .ok (.lstore_n 1, 1) := by decide +kernel
theorem dX7_digest_268 : decode cX7_digest 268 = .ok (.ldc2_w 245, 3) := by decide +kernel
theorem dX7_digest_271 : decode cX7_digest 271 = .ok (.lload_n 1, 1) := by decide +kernel
theorem dX7_digest_272 : decode cX7_digest 272 = .ok (.lmul, 1) := by decide +kernel
theorem dX7_digest_273 : decode cX7_digest 273 = .ok (.aload_n 0, 1) := by decide +kernel
theorem dX7_digest_274 : decode cX7_digest 274 = .ok (.iconst 0, 1) := by decide +kernel
theorem dX7_digest_275 : decode cX7_digest 275 = .ok (.invokevirtual 284, 3) := by decide +kernel
theorem dX7_digest_278 : decode cX7_digest 278 = .ok (.ladd, 1) := by decide +kernel
theorem dX7_digest_279 : decode cX7_digest 279 = .ok (.lstore_n 1, 1) := by decide +kernel
theorem dX7_digest_280 : decode cX7_digest 280 = .ok (.ldc2_w 245, 3) := by decide +kernel
theorem dX7_digest_283 : decode cX7_digest 283 = .ok (.lload_n 1, 1) := by decide +kernel
theorem dX7_digest_284 : decode cX7_digest 284 = .ok (.lmul, 1) := by decide +kernel
theorem dX7_digest_285 : decode cX7_digest 285 = .ok (.aload_n 0, 1) := by decide +kernel
theorem dX7_digest_286 : decode cX7_digest 286 = .ok (.iconst 1, 1) := by decide +kernel
theorem dX7_digest_287 : decode cX7_digest 287 = .ok (.invokevirtual 284, 3) := by decide +kernel
theorem dX7_digest_290 : decode cX7_digest 290 = .ok (.ladd, 1) := by decide +kernel
theorem dX7_digest_291 : decode cX7_digest 291 = .ok (.lstore_n 1, 1) := by decide +kernel
theorem dX7_digest_292 : decode cX7_digest 292 = .ok (.aload_n 0, 1) := by decide +kernel
theorem dX7_digest_293 : decode cX7_digest 293 = .ok (.getfield 46, 3) := by decide +kernel
theorem dX7_digest_296 : decode cX7_digest 296 = .ok (.iconst (-1), 1) := by decide +kernel
theorem dX7_digest_297 : decode cX7_digest 297 = .ok (.invokevirtual 187, 3) := by decide +kernel
theorem dX7_digest_300 : decode cX7_digest 300 = .ok (.iconst 0, 1) := by decide +kernel
theorem dX7_digest_301 : decode cX7_digest 301 = .ok (.istore_n 3, 1) := by decide +kernel
theorem dX7_digest_302 : decode cX7_digest 302 = .ok (.iload_n 3, 1) := by decide +kernel
theorem dX7_digest_303 : decode cX7_digest 303 = .ok (.bipush 7, 2) := by decide +kernel
theorem dX7_digest_305 : decode cX7_digest 305 = .ok (.if_icmp .gt 26, 3) := by decide +kernel
theorem dX7_digest_308 : decode cX7_digest 308 = .ok (.ldc2_w 245, 3) := by decide +kernel
theorem dX7_digest_311 : decode cX7_digest 311 = .ok (.lload_n 1, 1) := by decide +kernel
theorem dX7_digest_312 : decode cX7_digest 312 = .ok (.lmul, 1) := by decide +kernel
theorem dX7_digest_313 : decode cX7_digest 313 = .ok (.aload_n 0, 1) := by decide +kernel
theorem dX7_digest_314 : decode cX7_digest 314 = .ok (.getfield 46, 3) := by decide +kernel
theorem dX7_digest_317 : decode cX7_digest 317 = .ok (.getfield 191, 3) := by decide +kernel
theorem dX7_digest_320 : decode cX7_digest 320 = .ok (.iload_n 3, 1) := by decide +kernel
theorem dX7_digest_321 : decode cX7_digest 321 = .ok (.iaload, 1) := by decide +kernel
theorem dX7_digest_322 : decode cX7_digest 322 = .ok (.i2l, 1) := by decide +kernel
theorem dX7_digest_323 : decode cX7_digest 323 = .ok (.ladd, 1) := by decide +kernel
theorem dX7_digest_324 : decode cX7_digest 324 = .ok (.lstore_n 1, 1) := by decide +kernel
theorem dX7_digest_325 : decode cX7_digest 325 = .ok (.iinc 3 1, 3) := by decide +kernel
theorem dX7_digest_328 : decode cX7_digest 328 = .ok (.goto (-26), 3) := by decide +kernel
theorem dX7_digest_331 : decode cX7_digest 331 = .ok (.aload_n 0, 1) := by decide +kernel
theorem dX7_digest_332 : decode cX7_digest 332 = .ok (.getfield 46, 3) := by decide +kernel
theorem dX7_digest_335 : decode cX7_digest 335 = .ok (.iconst 1, 1) := by decide +kernel
theorem dX7_digest_336 : decode cX7_digest 336 = .ok (.invokevirtual 187, 3) := by decide +kernel
theorem dX7_digest_339 : decode cX7_digest 339 = .ok (.ldc2_w 245, 3) := by decide +kernel
theorem dX7_digest_342 : decode cX7_digest 342 = .ok (.lload_n 1, 1) := by decide +kernel
theorem dX7_digest_343 : decode cX7_digest 343 = .ok (.lmul, 1) := by decide +kernel
theorem dX7_digest_344 : decode cX7_digest 344 = .ok (.aload_n 0, 1) := by decide +kernel
theorem dX7_digest_345 : decode cX7_digest 345 = .ok (.getfield 46, 3) := by decide +kernel
theorem dX7_digest_348 : decode cX7_digest 348 = .ok (.getfield 191, 3) := by decide +kernel
theorem dX7_digest_351 : decode cX7_digest 351 = .ok (.iconst 0, 1) := by decide +kernel
theorem dX7_digest_352 : decode cX7_digest 352 = .ok (.iaload, 1) := by decide +kernel
theorem dX7_digest_353 : decode cX7_digest 353 = .ok (.i2l, 1) := by decide +kernel
theorem dX7_digest_354 : decode cX7_digest 354 = .ok (.ladd, 1) := by decide +kernel
theorem dX7_digest_355 : decode cX7_digest 355 = .ok (.lstore_n 1, 1) := by decide +kernel
theorem dX7_digest_356 : decode cX7_digest 356 = .ok (.ldc2_w 245, 3) := by decide +kernel
theorem dX7_digest_359 : decode cX7_digest 359 = .ok (.lload_n 1, 1) := by decide +kernel
theorem dX7_digest_360 : decode cX7_digest 360 = .ok (.lmul, 1) := by decide +kernel
theorem dX7_digest_361 : decode cX7_digest 361 = .ok (.aload_n 0, 1) := by decide +kernel
theorem dX7_digest_362 : decode cX7_digest 362 = .ok (.bipush 7, 2) := by decide +kernel
theorem dX7_digest_364 : decode cX7_digest 364 = .ok (.invokevirtual 288, 3) := by decide +kernel
theorem dX7_digest_367 : decode cX7_digest 367 = .ok (.i2l, 1) := by decide +kernel
theorem dX7_digest_368 : decode cX7_digest 368 = .ok (.ladd, 1) := by decide +kernel
theorem dX7_digest_369 : decode cX7_digest 369 = .ok (.lstore_n 1, 1) := by decide +kernel
theorem dX7_digest_370 : decode cX7_digest 370 = .ok (.ldc2_w 245, 3) := by decide +kernel
theorem dX7_digest_373 : decode cX7_digest 373 = .ok (.lload_n 1, 1) := by decide +kernel
theorem dX7_digest_374 : decode cX7_digest 374 = .ok (.lmul, 1) := by decide +kernel
theorem dX7_digest_375 : decode cX7_digest 375 = .ok (.aload_n 0, 1) := by decide +kernel
theorem dX7_digest_376 : decode cX7_digest 376 = .ok (.bipush 7, 2) := by decide +kernel
theorem dX7_digest_378 : decode cX7_digest 378 = .ok (.bipush 10, 2) := by decide +kernel
theorem dX7_digest_380 : decode cX7_digest 380 = .ok (.sipush 5000, 3) := by decide +kernel
theorem dX7_digest_383 : decode cX7_digest 383 = .ok (.invokevirtual 291, 3) := by decide +kernel
theorem dX7_digest_386 : decode cX7_digest 386 = .ok (.i2l, 1) := by decide +kernel
theorem dX7_digest_387 : decode cX7_digest 387 = .ok (.ladd, 1) := by decide +kernel
theorem dX7_digest_388 : decode cX7_digest 388 = .ok (.lreturn, 1) := by decide +kernel
theorem dX7_outside_0 : decode cX7_outside 0 = .ok (.iload_n 0, 1) := by decide +kernel
theorem dX7_outside_1 : decode cX7_outside 1 = .ok (.iload_n 1, 1) := by decide +kernel
theorem dX7_outside_2 : decode cX7_outside 2 = .ok (.if_icmp .lt 8, 3) := by decide +kernel
theorem dX7_outside_5 : decode cX7_outside 5 = .ok (.iload_n 0, 1) := by decide +kernel
theorem dX7_outside_6 : decode cX7_outside 6 = .ok (.iload_n 2, 1) := by decide +kernel
theorem dX7_outside_7 : decode cX7_outside 7 = .ok (.if_icmp .le 7, 3) := by decide +kernel
theorem dX7_outside_10 : decode cX7_outside 10 = .ok (.iconst 1, 1) := by decide +kernel
theorem dX7_outside_11 : decode cX7_outside 11 = .ok (.goto 4, 3) := by decide +kernel
theorem dX7_outside_14 : decode cX7_outside 14 = .ok (.iconst 0, 1) := by decide +kernel
theorem dX7_outside_15 : decode cX7_outside 15 = .ok (.ireturn, 1) := by decide +kernel
theorem dX7_isNobody_0 : decode cX7_isNobody 0 = .ok (.iload_n 1, 1) := by decide +kernel
theorem dX7_isNobody_1 : decode cX7_isNobody 1 = .ok (.iconst 0, 1) := by decide +kernel
theorem dX7_isNobody_2 : decode cX7_isNobody 2 = .ok (.aload_n 0, 1) := by decide +kernel
theorem dX7_isNobody_3 : decode cX7_isNobody 3 = .ok (.getfield 10, 3) := by decide +kernel
theorem dX7_isNobody_6 : decode cX7_isNobody 6 = .ok (.getfield 234, 3) := by decide +kernel
theorem dX7_isNobody_9 : decode cX7_isNobody 9 = .ok (.iconst 1, 1) := by decide +kernel
theorem dX7_isNobody_10 : decode cX7_isNobody 10 = .ok (.isub, 1) := by decide +kernel
theorem dX7_isNobody_11 : decode cX7_isNobody 11 = .ok (.invokestatic 64, 3) := by decide +kernel
theorem dX7_isNobody_14 : decode cX7_isNobody 14 = .ok (.ireturn, 1) := by decide +kernel
theorem dX7_isNoStretch_0 : decode cX7_isNoStretch 0 = .ok (.iload_n 0, 1) := by decide +kernel
theorem dX7_isNoStretch_1 : decode cX7_isNoStretch 1 = .ok (.iconst 0, 1) := by decide +kernel
theorem dX7_isNoStretch_2 : decode cX7_isNoStretch 2 = .ok (.iconst 3, 1) := by decide +kernel
theorem dX7_isNoStretch_3 : decode cX7_isNoStretch 3 = .ok (.invokestatic 64, 3) := by decide +kernel
theorem dX7_isNoStretch_6 : decode cX7_isNoStretch 6 = .ok (.ireturn, 1) := by decide +kernel
theorem dX7_isNoChange_0 : decode cX7_isNoChange 0 = .ok (.iload_n 0, 1) := by decide +kernel
theorem dX7_isNoChange_1 : decode cX7_isNoChange 1 = .ok (.iconst 0, 1) := by decide +kernel
theorem dX7_isNoChange_2 : decode cX7_isNoChange 2 = .ok (.iconst 2, 1) := by decide +kernel
theorem dX7_isNoChange_3 : decode cX7_isNoChange 3 = .ok (.invokestatic 64, 3) := by decide +kernel
theorem dX7_isNoChange_6 : decode cX7_isNoChange 6 = .ok (.ireturn, 1) := by decide +kernel
theorem dX7_isNoMark_0 : decode cX7_isNoMark 0 = .ok (.iload_n 0, 1) := by decide +kernel
theorem dX7_isNoMark_1 : decode cX7_isNoMark 1 = .ok (.iconst 0, 1) := by decide +kernel
theorem dX7_isNoMark_2 : decode cX7_isNoMark 2 = .ok (.bipush 40, 2) := by decide +kernel
theorem dX7_isNoMark_4 : decode cX7_isNoMark 4 = .ok (.invokestatic 64, 3) := by decide +kernel
theorem dX7_isNoMark_7 : decode cX7_isNoMark 7 = .ok (.ireturn, 1) := by decide +kernel
theorem dX7_isNoSheet_0 : decode cX7_isNoSheet 0 = .ok (.iload_n 0, 1) := by decide +kernel
theorem dX7_isNoSheet_1 : decode cX7_isNoSheet 1 = .ok (.iconst 0, 1) := by decide +kernel
theorem dX7_isNoSheet_2 : decode cX7_isNoSheet 2 = .ok (.iconst 3, 1) := by decide +kernel
theorem dX7_isNoSheet_3 : decode cX7_isNoSheet 3 = .ok (.invokestatic 64, 3) := by decide +kernel
theorem dX7_isNoSheet_6 : decode cX7_isNoSheet 6 = .ok (.ireturn, 1) := by decide +kernel
theorem dX7_isNoForm_0 : decode cX7_isNoForm 0 = .ok (.iload_n 0, 1) := by decide +kernel
theorem dX7_isNoForm_1 : decode cX7_isNoForm 1 = .ok (.iconst 0, 1) := by decide +kernel
theorem dX7_isNoForm_2 : decode cX7_isNoForm 2 = .ok (.iconst 2, 1) := by decide +kernel
theorem dX7_isNoForm_3 : decode cX7_isNoForm 3 = .ok (.invokestatic 64, 3) := by decide +kernel
theorem dX7_isNoForm_6 : decode cX7_isNoForm 6 = .ok (.ireturn, 1) := by decide +kernel
theorem dX7_swap_0 : decode cX7_swap 0 = .ok (.aload_n 0, 1) := by decide +kernel
theorem dX7_swap_1 : decode cX7_swap 1 = .ok (.iload_n 1, 1) := by decide +kernel
theorem dX7_swap_2 : decode cX7_swap 2 = .ok (.iaload, 1) := by decide +kernel
theorem dX7_swap_3 : decode cX7_swap 3 = .ok (.istore_n 3, 1) := by decide +kernel
theorem dX7_swap_4 : decode cX7_swap 4 = .ok (.aload_n 0, 1) := by decide +kernel
theorem dX7_swap_5 : decode cX7_swap 5 = .ok (.iload_n 1, 1) := by decide +kernel
theorem dX7_swap_6 : decode cX7_swap 6 = .ok (.iload_n 2, 1) := by decide +kernel
theorem dX7_swap_7 : decode cX7_swap 7 = .ok (.iastore, 1) := by decide +kernel
theorem dX7_swap_8 : decode cX7_swap 8 = .ok (.iload_n 3, 1) := by decide +kernel
theorem dX7_swap_9 : decode cX7_swap 9 = .ok (.ireturn, 1) := by decide +kernel
theorem dX8_init_0 : decode cX8_init 0 = .ok (.aload_n 0, 1) := by decide +kernel
theorem dX8_init_1 : decode cX8_init 1 = .ok (.invokespecial 1, 3) := by decide +kernel
theorem dX8_init_4 : decode cX8_init 4 = .ok (.aload_n 0, 1) := by decide +kernel
theorem dX8_init_5 : decode cX8_init 5 = .ok (.iconst 4, 1) := by decide +kernel
theorem dX8_init_6 : decode cX8_init 6 = .ok (.newarray .int, 2) := by decide +kernel
theorem dX8_init_8 : decode cX8_init 8 = .ok (.putfield 7, 3) := by decide +kernel
theorem dX8_init_11 : decode cX8_init 11 = .ok (.aload_n 0, 1) := by decide +kernel
theorem dX8_init_12 : decode cX8_init 12 = .ok (.iconst 4, 1) := by decide +kernel
theorem dX8_init_13 : decode cX8_init 13 = .ok (.newarray .int, 2) := by decide +kernel
theorem dX8_init_15 : decode cX8_init 15 = .ok (.putfield 13, 3) := by decide +kernel
theorem dX8_init_18 : decode cX8_init 18 = .ok (.aload_n 0, 1) := by decide +kernel
theorem dX8_init_19 : decode cX8_init 19 = .ok (.sipush 240, 3) := by decide +kernel
theorem dX8_init_22 : decode cX8_init 22 = .ok (.newarray .int, 2) := by decide +kernel
theorem dX8_init_24 : decode cX8_init 24 = .ok (.putfield 16, 3) := by decide +kernel
theorem dX8_init_27 : decode cX8_init 27 = .ok (.aload_n 0, 1) := by decide +kernel
theorem dX8_init_28 : decode cX8_init 28 = .ok (.bipush 60, 2) := by decide +kernel
theorem dX8_init_30 : decode cX8_init 30 = .ok (.newarray .int, 2) := by decide +kernel
theorem dX8_init_32 : decode cX8_init 32 = .ok (.putfield 19, 3) := by decide +kernel
theorem dX8_init_35 : decode cX8_init 35 = .ok (.aload_n 0, 1) := by decide +kernel
theorem dX8_init_36 : decode cX8_init 36 = .ok (.bipush 40, 2) := by decide +kernel
theorem dX8_init_38 : decode cX8_init 38 = .ok (.newarray .int, 2) := by decide +kernel
theorem dX8_init_40 : decode cX8_init 40 = .ok (.putfield 22, 3) := by decide +kernel
theorem dX8_init_43 : decode cX8_init 43 = .ok (.aload_n 0, 1) := by decide +kernel
theorem dX8_init_44 : decode cX8_init 44 = .ok (.bipush 20, 2) := by decide +kernel
theorem dX8_init_46 : decode cX8_init 46 = .ok (.newarray .int, 2) := by decide +kernel
theorem dX8_init_48 : decode cX8_init 48 = .ok (.putfield 25, 3) := by decide +kernel
theorem dX8_init_51 : decode cX8_init 51 = .ok (.aload_n 0, 1) := by decide +kernel
theorem dX8_init_52 : decode cX8_init 52 = .ok (.iconst 4, 1) := by decide +kernel
theorem dX8_init_53 : decode cX8_init 53 = .ok (.newarray .int, 2) := by decide +kernel
theorem dX8_init_55 : decode cX8_init 55 = .ok (.putfield 28, 3) := by decide +kernel
theorem dX8_init_58 : decode cX8_init 58 = .ok (.aload_n 0, 1) := by decide +kernel
theorem dX8_init_59 : decode cX8_init 59 = .ok (.bipush 7, 2) := by decide +kernel
theorem dX8_init_61 : decode cX8_init 61 = .ok (.newarray .int, 2) := by decide +kernel
theorem dX8_init_63 : decode cX8_init 63 = .ok (.putfield 31, 3) := by decide +kernel
theorem dX8_init_66 : decode cX8_init 66 = .ok (.aload_n 0, 1) := by decide +kernel
theorem dX8_init_67 : decode cX8_init 67 = .ok (.iconst 3, 1) := by decide +kernel
theorem dX8_init_68 : decode cX8_init 68 = .ok (.newarray .int, 2) := by decide +kernel
theorem dX8_init_70 : decode cX8_init 70 = .ok (.putfield 34, 3) := by decide +kernel
theorem dX8_init_73 : decode cX8_init 73 = .ok (.aload_n 0, 1) := by decide +kernel
theorem dX8_init_74 : decode cX8_init 74 = .ok (.iconst 3, 1) := by decide +kernel
theorem dX8_init_75 : decode cX8_init 75 = .ok (.newarray .int, 2) := by decide +kernel
theorem dX8_init_77 : decode cX8_init 77 = .ok (.putfield 37, 3) := by decide +kernel
theorem dX8_init_80 : decode cX8_init 80 = .ok (.aload_n 0, 1) := by decide +kernel
theorem dX8_init_81 : decode cX8_init 81 = .ok (.bipush 8, 2) := by decide +kernel
theorem dX8_init_83 : decode cX8_init 83 = .ok (.newarray .int, 2) := by decide +kernel
theorem dX8_init_85 : decode cX8_init 85 = .ok (.putfield 40, 3) := by decide +kernel
theorem dX8_init_88 : decode cX8_init 88 = .ok (.aload_n 0, 1) := by decide +kernel
theorem dX8_init_89 : decode cX8_init 89 = .ok (.bipush 8, 2) := by decide +kernel
theorem dX8_init_91 : decode cX8_init 91 = .ok (.newarray .int, 2) := by decide +kernel
theorem dX8_init_93 : decode cX8_init 93 = .ok (.putfield 43, 3) := by decide +kernel
theorem dX8_init_96 : decode cX8_init 96 = .ok (.iconst 0, 1) := by decide +kernel
theorem dX8_init_97 : decode cX8_init 97 = .ok (.istore_n 1, 1) := by decide +kernel
theorem dX8_init_98 : decode cX8_init 98 = .ok (.iload_n 1, 1) := by decide +kernel
theorem dX8_init_99 : decode cX8_init 99 = .ok (.iconst 4, 1) := by decide +kernel
theorem dX8_init_100 : decode cX8_init 100 = .ok (.if_icmp .ge 23, 3) := by decide +kernel
theorem dX8_init_103 : decode cX8_init 103 = .ok (.aload_n 0, 1) := by decide +kernel
theorem dX8_init_104 : decode cX8_init 104 = .ok (.getfield 7, 3) := by decide +kernel
theorem dX8_init_107 : decode cX8_init 107 = .ok (.iload_n 1, 1) := by decide +kernel
theorem dX8_init_108 : decode cX8_init 108 = .ok (.iconst (-1), 1) := by decide +kernel
theorem dX8_init_109 : decode cX8_init 109 = .ok (.iastore, 1) := by decide +kernel
theorem dX8_init_110 : decode cX8_init 110 = .ok (.aload_n 0, 1) := by decide +kernel
theorem dX8_init_111 : decode cX8_init 111 = .ok (.getfield 28, 3) := by decide +kernel
theorem dX8_init_114 : decode cX8_init 114 = .ok (.iload_n 1, 1) := by decide +kernel
theorem dX8_init_115 : decode cX8_init 115 = .ok (.iload_n 1, 1) := by decide +kernel
theorem dX8_init_116 : decode cX8_init 116 = .ok (.iastore, 1) := by decide +kernel
theorem dX8_init_117 : decode cX8_init 117 = .ok (.iinc 1 1, 3) := by decide +kernel
theorem dX8_init_120 : decode cX8_init 120 = .ok (.goto (-22), 3) := by decide +kernel
theorem dX8_init_123 : decode cX8_init 123 = .ok (.iconst 0, 1) := by decide +kernel
theorem dX8_init_124 : decode cX8_init 124 = .ok (.istore_n 1, 1) := by decide +kernel
theorem dX8_init_125 : decode cX8_init 125 = .ok (.iload_n 1, 1) := by decide +kernel
theorem dX8_init_126 : decode cX8_init 126 = .ok (.iconst 3, 1) := by decide +kernel
theorem dX8_init_127 : decode cX8_init 127 = .ok (.if_icmp .ge 17, 3) := by decide +kernel
theorem dX8_init_130 : decode cX8_init 130 = .ok (.aload_n 0, 1) := by decide +kernel
theorem dX8_init_131 : decode cX8_init 131 = .ok (.getfield 34, 3) := by decide +kernel
theorem dX8_init_134 : decode cX8_init 134 = .ok (.iload_n 1, 1) := by decide +kernel
theorem dX8_init_135 : decode cX8_init 135 = .ok (.bipush 8, 2) := by decide +kernel
theorem dX8_init_137 : decode cX8_init 137 = .ok (.iastore, 1) := by decide +kernel
theorem dX8_init_138 : decode cX8_init 138 = .ok (.iinc 1 1, 3) := by decide +kernel
theorem dX8_init_141 : decode cX8_init 141 = .ok (.goto (-16), 3) := by decide +kernel
theorem dX8_init_144 : decode cX8_init 144 = .ok (.aload_n 0, 1) := by decide +kernel
theorem dX8_init_145 : decode cX8_init 145 = .ok (.getfield 31, 3) := by decide +kernel
theorem dX8_init_148 : decode cX8_init 148 = .ok (.iconst 0, 1) := by decide +kernel
theorem dX8_init_149 : decode cX8_init 149 = .ok (.bipush 20, 2) := by decide +kernel
theorem dX8_init_151 : decode cX8_init 151 = .ok (.iastore, 1) := by decide +kernel
theorem dX8_init_152 : decode cX8_init 152 = .ok (.aload_n 0, 1) := by decide +kernel
theorem dX8_init_153 : decode cX8_init 153 = .ok (.getfield 31, 3) := by decide +kernel
theorem dX8_init_156 : decode cX8_init 156 = .ok (.iconst 1, 1) := by decide +kernel
theorem dX8_init_157 : decode cX8_init 157 = .ok (.iconst 1, 1) := by decide +kernel
theorem dX8_init_158 : decode cX8_init 158 = .ok (.iastore, 1) := by decide +kernel
theorem dX8_init_159 : decode cX8_init 159 = .ok (.aload_n 0, 1) := by decide +kernel
theorem dX8_init_160 : decode cX8_init 160 = .ok (.getfield 31, 3) := by decide +kernel
theorem dX8_init_163 : decode cX8_init 163 = .ok (.iconst 2, 1) := by decide +kernel
theorem dX8_init_164 : decode cX8_init 164 = .ok (.bipush 20, 2) := by decide +kernel
theorem dX8_init_166 : decode cX8_init 166 = .ok (.iastore, 1) := by decide +kernel
theorem dX8_init_167 : decode cX8_init 167 = .ok (.aload_n 0, 1) := by decide +kernel
theorem dX8_init_168 : decode cX8_init 168 = .ok (.getfield 31, 3) := by decide +kernel
theorem dX8_init_171 : decode cX8_init 171 = .ok (.iconst 5, 1) := by decide +kernel
theorem dX8_init_172 : decode cX8_init 172 = .ok (.bipush 30, 2) := by decide +kernel
theorem dX8_init_174 : decode cX8_init 174 = .ok (.iastore, 1) := by decide +kernel
theorem dX8_init_175 : decode cX8_init 175 = .ok (.aload_n 0, 1) := by decide +kernel
theorem dX8_init_176 : decode cX8_init 176 = .ok (.getfield 31, 3) := by decide +kernel
theorem dX8_init_179 : decode cX8_init 179 = .ok (.bipush 6, 2) := by decide +kernel
theorem dX8_init_181 : decode cX8_init 181 = .ok (.iconst 5, 1) := by decide +kernel
theorem dX8_init_182 : decode cX8_init 182 = .ok (.iastore, 1) := by decide +kernel
theorem dX8_init_183 : decode cX8_init 183 = .ok (.return_, 1) := by decide +kernel
theorem dX8_in_0 : decode cX8_in 0 = .ok (.lload_n 0, 1) := by decide +kernel
theorem dX8_in_1 : decode cX8_in 1 = .ok (.lload_n 2, 1) := by decide +kernel
theorem dX8_in_2 : decode cX8_in 2 = .ok (.lcmp, 1) := by decide +kernel
theorem dX8_in_3 : decode cX8_in 3 = .ok (.ifCond .lt 14, 3) := by decide +kernel
theorem dX8_in_6 : decode cX8_in 6 = .ok (.lload_n 0, 1) := by decide +kernel
theorem dX8_in_7 : decode cX8_in 7 = .ok (.lload 4, 2) := by decide +kernel
theorem dX8_in_9 : decode cX8_in 9 = .ok (.lcmp, 1) := by decide +kernel
theorem dX8_in_10 : decode cX8_in 10 = .ok (.ifCond .gt 7, 3) := by decide +kernel
theorem dX8_in_13 : decode cX8_in 13 = .ok (.iconst 1, 1) := by decide +kernel
theorem dX8_in_14 : decode cX8_in 14 = .ok (.goto 4, 3) := by decide +kernel
theorem dX8_in_17 : decode cX8_in 17 = .ok (.iconst 0, 1) := by decide +kernel
theorem dX8_in_18 : decode cX8_in 18 = .ok (.ireturn, 1) := by decide +kernel
theorem dX8_no_0 : decode cX8_no 0 = .ok (.ldc2_w 46, 3) := by decide +kernel
theorem dX8_no_3 : decode cX8_no 3 = .ok (.iload_n 0, 1) := by decide +kernel
theorem dX8_no_4 : decode cX8_no 4 = .ok (.i2l, 1) := by decide +kernel
theorem dX8_no_5 : decode cX8_no 5 = .ok (.lsub, 1) := by decide +kernel
theorem dX8_no_6 : decode cX8_no 6 = .ok (.lreturn, 1) := by decide +kernel
theorem dX8_isTwo_0 : decode cX8_isTwo 0 = .ok (.iload_n 0, 1) := by decide +kernel
theorem dX8_isTwo_1 : decode cX8_isTwo 1 = .ok (.i2l, 1) := by decide +kernel
theorem dX8_isTwo_2 : decode cX8_isTwo 2 = .ok (.lconst 0, 1) := by decide +kernel
theorem dX8_isTwo_3 : decode cX8_isTwo 3 = .ok (.lconst 1, 1) := by decide +kernel
theorem dX8_isTwo_4 : decode cX8_isTwo 4 = .ok (.invokestatic 48, 3) := by decide +kernel
theorem dX8_isTwo_7 : decode cX8_isTwo 7 = .ok (.ireturn, 1) := by decide +kernel
theorem dX8_lesser_0 : decode cX8_lesser 0 = .ok (.iload_n 0, 1) := by decide +kernel
theorem dX8_lesser_1 : decode cX8_lesser 1 = .ok (.iload_n 1, 1) := by decide +kernel
theorem dX8_lesser_2 : decode cX8_lesser 2 = .ok (.if_icmp .ge 7, 3) := by decide +kernel
theorem dX8_lesser_5 : decode cX8_lesser 5 = .ok (.iload_n 0, 1) := by decide +kernel
theorem dX8_lesser_6 : decode cX8_lesser 6 = .ok (.goto 4, 3) := by decide +kernel
theorem dX8_lesser_9 : decode cX8_lesser 9 = .ok (.iload_n 1, 1) := by decide +kernel
theorem dX8_lesser_10 : decode cX8_lesser 10 = .ok (.ireturn, 1) := by decide +kernel
theorem dX8_met_0 : decode cX8_met 0 = .ok (.aload_n 0, 1) := by decide +kernel
theorem dX8_met_1 : decode cX8_met 1 = .ok (.iload_n 1, 1) := by decide +kernel
theorem dX8_met_2 : decode cX8_met 2 = .ok (.putfield 52, 3) := by decide +kernel
theorem dX8_met_5 : decode cX8_met 5 = .ok (.bipush (-10), 2) := by decide +kernel
theorem dX8_met_7 : decode cX8_met 7 = .ok (.iload_n 1, 1) := by decide +kernel
theorem dX8_met_8 : decode cX8_met 8 = .ok (.isub, 1) := by decide +kernel
theorem dX8_met_9 : decode cX8_met 9 = .ok (.ireturn, 1) := by decide +kernel
theorem dX8_isSheet_0 : decode cX8_isSheet 0 = .ok (.iload_n 0, 1) := by decide +kernel
theorem dX8_isSheet_1 : decode cX8_isSheet 1 = .ok (.i2l, 1) := by decide +kernel
theorem dX8_isSheet_2 : decode cX8_isSheet 2 = .ok (.lconst 0, 1) := by decide +kernel
theorem dX8_isSheet_3 : decode cX8_isSheet 3 = .ok (.ldc2_w 56, 3) := by decide +kernel
theorem dX8_isSheet_6 : decode cX8_isSheet 6 = .ok (.invokestatic 48, 3) := by decide +kernel
theorem dX8_isSheet_9 : decode cX8_isSheet 9 = .ok (.ireturn, 1) := by decide +kernel
theorem dX8_sheet_0 : decode cX8_sheet 0 = .ok (.iload_n 1, 1) := by decide +kernel
theorem dX8_sheet_1 : decode cX8_sheet 1 = .ok (.invokestatic 58, 3) := by decide +kernel
theorem dX8_sheet_4 : decode cX8_sheet 4 = .ok (.ifCond .eq 21, 3) := by decide +kernel
theorem dX8_sheet_7 : decode cX8_sheet 7 = .ok (.iload_n 2, 1) := by decide +kernel
theorem dX8_sheet_8 : decode cX8_sheet 8 = .ok (.i2l, 1) := by decide +kernel
theorem dX8_sheet_9 : decode cX8_sheet 9 = .ok (.lconst 0, 1) := by decide +kernel
theorem dX8_sheet_10 : decode cX8_sheet 10 = .ok (.ldc2_w 62, 3) := by decide +kernel
theorem dX8_sheet_13 : decode cX8_sheet 13 = .ok (.invokestatic 48, 3) := by decide +kernel
theorem dX8_sheet_16 : decode cX8_sheet 16 = .ok (.ifCond .eq 9, 3) := by decide +kernel
theorem dX8_sheet_19 : decode cX8_sheet 19 = .ok (.iload_n 3, 1) := by decide +kernel
theorem dX8_sheet_20 : decode cX8_sheet 20 = .ok (.bipush 60, 2) := by decide +kernel
theorem dX8_sheet_22 : decode cX8_sheet 22 = .ok (.if_icmp .le 6, 3) := by decide +kernel
theorem dX8_sheet_25 : decode cX8_sheet 25 = .ok (.bipush (-2), 2) := by decide +kernel
theorem dX8_sheet_27 : decode cX8_sheet 27 = .ok (.ireturn, 1) := by decide +kernel
theorem dX8_sheet_28 : decode cX8_sheet 28 = .ok (.iload_n 3, 1) := by decide +kernel
theorem dX8_sheet_29 : decode cX8_sheet 29 = .ok (.ifCond .ge 9, 3) := by decide +kernel
theorem dX8_sheet_32 : decode cX8_sheet 32 = .ok (.aload_n 0, 1) := by decide +kernel
theorem dX8_sheet_33 : decode cX8_sheet 33 = .ok (.iconst 5, 1) := by decide +kernel
theorem dX8_sheet_34 : decode cX8_sheet 34 = .ok (.invokevirtual 64, 3) := by decide +kernel
theorem dX8_sheet_37 : decode cX8_sheet 37 = .ok (.ireturn, 1) := by decide +kernel
theorem dX8_sheet_38 : decode cX8_sheet 38 = .ok (.aload_n 0, 1) := by decide +kernel
theorem dX8_sheet_39 : decode cX8_sheet 39 = .ok (.getfield 7, 3) := by decide +kernel
theorem dX8_sheet_42 : decode cX8_sheet 42 = .ok (.iload_n 1, 1) := by decide +kernel
theorem dX8_sheet_43 : decode cX8_sheet 43 = .ok (.iload_n 2, 1) := by decide +kernel
theorem dX8_sheet_44 : decode cX8_sheet 44 = .ok (.iastore, 1) := by decide +kernel
theorem dX8_sheet_45 : decode cX8_sheet 45 = .ok (.aload_n 0, 1) := by decide +kernel
theorem dX8_sheet_46 : decode cX8_sheet 46 = .ok (.getfield 13, 3) := by decide +kernel
theorem dX8_sheet_49 : decode cX8_sheet 49 = .ok (.iload_n 1, 1) := by decide +kernel
theorem dX8_sheet_50 : decode cX8_sheet 50 = .ok (.iload_n 3, 1) := by decide +kernel
theorem dX8_sheet_51 : decode cX8_sheet 51 = .ok (.iastore, 1) := by decide +kernel
theorem dX8_sheet_52 : decode cX8_sheet 52 = .ok (.iconst 0, 1) := by decide +kernel
theorem dX8_sheet_53 : decode cX8_sheet 53 = .ok (.istore 4, 2) := by decide +kernel
theorem dX8_sheet_55 : decode cX8_sheet 55 = .ok (.iload 4, 2) := by decide +kernel
theorem dX8_sheet_57 : decode cX8_sheet 57 = .ok (.iload_n 3, 1) := by decide +kernel
theorem dX8_sheet_58 : decode cX8_sheet 58 = .ok (.if_icmp .ge 22, 3) := by decide +kernel
theorem dX8_sheet_61 : decode cX8_sheet 61 = .ok (.aload_n 0, 1) := by decide +kernel
theorem dX8_sheet_62 : decode cX8_sheet 62 = .ok (.getfield 16, 3) := by decide +kernel
theorem dX8_sheet_65 : decode cX8_sheet 65 = .ok (.bipush 60, 2) := by decide +kernel
theorem dX8_sheet_67 : decode cX8_sheet 67 = .ok (.iload_n 1, 1) := by decide +kernel
theorem dX8_sheet_68 : decode cX8_sheet 68 = .ok (.imul, 1) := by decide +kernel
theorem dX8_sheet_69 : decode cX8_sheet 69 = .ok (.iload 4, 2) := by decide +kernel
theorem dX8_sheet_71 : decode cX8_sheet 71 = .ok (.iadd, 1) := by decide +kernel
theorem dX8_sheet_72 : decode cX8_sheet 72 = .ok (.iconst 0, 1) := by decide +kernel
theorem dX8_sheet_73 : decode cX8_sheet 73 = .ok (.iastore, 1) := by decide +kernel
theorem dX8_sheet_74 : decode cX8_sheet 74 = .ok (.iinc 4 1, 3) := by decide +kernel
theorem dX8_sheet_77 : decode cX8_sheet 77 = .ok (.goto (-22), 3) := by decide +kernel
theorem dX8_sheet_80 : decode cX8_sheet 80 = .ok (.iload_n 3, 1) := by decide +kernel
theorem dX8_sheet_81 : decode cX8_sheet 81 = .ok (.ireturn, 1) := by decide +kernel
theorem dX8_lose_0 : decode cX8_lose 0 = .ok (.iload_n 1, 1) := by decide +kernel
theorem dX8_lose_1 : decode cX8_lose 1 = .ok (.invokestatic 58, 3) := by decide +kernel
theorem dX8_lose_4 : decode cX8_lose 4 = .ok (.ifCond .ne 6, 3) := by decide +kernel
theorem dX8_lose_7 : decode cX8_lose 7 = .ok (.bipush (-2), 2) := by decide +kernel
theorem dX8_lose_9 : decode cX8_lose 9 = .ok (.ireturn, 1) := by decide +kernel
theorem dX8_lose_10 : decode cX8_lose 10 = .ok (.aload_n 0, 1) := by decide +kernel
theorem dX8_lose_11 : decode cX8_lose 11 = .ok (.getfield 7, 3) := by decide +kernel
theorem dX8_lose_14 : decode cX8_lose 14 = .ok (.iload_n 1, 1) := by decide +kernel
theorem dX8_lose_15 : decode cX8_lose 15 = .ok (.iaload, 1) := by decide +kernel
theorem dX8_lose_16 : decode cX8_lose 16 = .ok (.ifCond .ge 9, 3) := by decide +kernel
theorem dX8_lose_19 : decode cX8_lose 19 = .ok (.aload_n 0, 1) := by decide +kernel
theorem dX8_lose_20 : decode cX8_lose 20 = .ok (.iconst 1, 1) := by decide +kernel
theorem dX8_lose_21 : decode cX8_lose 21 = .ok (.invokevirtual 64, 3) := by decide +kernel
theorem dX8_lose_24 : decode cX8_lose 24 = .ok (.ireturn, 1) := by decide +kernel
theorem dX8_lose_25 : decode cX8_lose 25 = .ok (.aload_n 0, 1) := by decide +kernel
theorem dX8_lose_26 : decode cX8_lose 26 = .ok (.getfield 7, 3) := by decide +kernel
theorem dX8_lose_29 : decode cX8_lose 29 = .ok (.iload_n 1, 1) := by decide +kernel
theorem dX8_lose_30 : decode cX8_lose 30 = .ok (.iconst (-1), 1) := by decide +kernel
theorem dX8_lose_31 : decode cX8_lose 31 = .ok (.iastore, 1) := by decide +kernel
theorem dX8_lose_32 : decode cX8_lose 32 = .ok (.aload_n 0, 1) := by decide +kernel
theorem dX8_lose_33 : decode cX8_lose 33 = .ok (.getfield 13, 3) := by decide +kernel
theorem dX8_lose_36 : decode cX8_lose 36 = .ok (.iload_n 1, 1) := by decide +kernel
theorem dX8_lose_37 : decode cX8_lose 37 = .ok (.iaload, 1) := by decide +kernel
theorem dX8_lose_38 : decode cX8_lose 38 = .ok (.ireturn, 1) := by decide +kernel
theorem dX8_lacks_0 : decode cX8_lacks 0 = .ok (.aload_n 0, 1) := by decide +kernel
theorem dX8_lacks_1 : decode cX8_lacks 1 = .ok (.getfield 7, 3) := by decide +kernel
theorem dX8_lacks_4 : decode cX8_lacks 4 = .ok (.iload_n 1, 1) := by decide +kernel
theorem dX8_lacks_5 : decode cX8_lacks 5 = .ok (.iaload, 1) := by decide +kernel
theorem dX8_lacks_6 : decode cX8_lacks 6 = .ok (.ifCond .ge 9, 3) := by decide +kernel
theorem dX8_lacks_9 : decode cX8_lacks 9 = .ok (.aload_n 0, 1) := by decide +kernel
theorem dX8_lacks_10 : decode cX8_lacks 10 = .ok (.iconst 1, 1) := by decide +kernel
theorem dX8_lacks_11 : decode cX8_lacks 11 = .ok (.invokevirtual 64, 3) := by decide +kernel
theorem dX8_lacks_14 : decode cX8_lacks 14 = .ok (.ireturn, 1) := by decide +kernel
theorem dX8_lacks_15 : decode cX8_lacks 15 = .ok (.aload_n 0, 1) := by decide +kernel
theorem dX8_lacks_16 : decode cX8_lacks 16 = .ok (.getfield 7, 3) := by decide +kernel
theorem dX8_lacks_19 : decode cX8_lacks 19 = .ok (.iload_n 1, 1) := by decide +kernel
theorem dX8_lacks_20 : decode cX8_lacks 20 = .ok (.iaload, 1) := by decide +kernel
theorem dX8_lacks_21 : decode cX8_lacks 21 = .ok (.iload_n 2, 1) := by decide +kernel
theorem dX8_lacks_22 : decode cX8_lacks 22 = .ok (.if_icmp .eq 9, 3) := by decide +kernel
theorem dX8_lacks_25 : decode cX8_lacks 25 = .ok (.aload_n 0, 1) := by decide +kernel
theorem dX8_lacks_26 : decode cX8_lacks 26 = .ok (.iconst 3, 1) := by decide +kernel
theorem dX8_lacks_27 : decode cX8_lacks 27 = .ok (.invokevirtual 64, 3) := by decide +kernel
theorem dX8_lacks_30 : decode cX8_lacks 30 = .ok (.ireturn, 1) := by decide +kernel
theorem dX8_lacks_31 : decode cX8_lacks 31 = .ok (.iload_n 3, 1) := by decide +kernel
theorem dX8_lacks_32 : decode cX8_lacks 32 = .ok (.i2l, 1) := by decide +kernel
theorem dX8_lacks_33 : decode cX8_lacks 33 = .ok (.lconst 0, 1) := by decide +kernel
theorem dX8_lacks_34 : decode cX8_lacks 34 = .ok (.aload_n 0, 1) := by decide +kernel
theorem dX8_lacks_35 : decode cX8_lacks 35 = .ok (.getfield 13, 3) := by decide +kernel
theorem dX8_lacks_38 : decode cX8_lacks 38 = .ok (.iload_n 1, 1) := by decide +kernel
theorem dX8_lacks_39 : decode cX8_lacks 39 = .ok (.iaload, 1) := by decide +kernel
theorem dX8_lacks_40 : decode cX8_lacks 40 = .ok (.iconst 1, 1) := by decide +kernel
theorem dX8_lacks_41 : decode cX8_lacks 41 = .ok (.isub, 1) := by decide +kernel
theorem dX8_lacks_42 : decode cX8_lacks 42 = .ok (.i2l, 1) := by decide +kernel
theorem dX8_lacks_43 : decode cX8_lacks 43 = .ok (.invokestatic 48, 3) := by decide +kernel
theorem dX8_lacks_46 : decode cX8_lacks 46 = .ok (.ifCond .eq 7, 3) := by decide +kernel
theorem dX8_lacks_49 : decode cX8_lacks 49 = .ok (.iconst 0, 1) := by decide +kernel
theorem dX8_lacks_50 : decode cX8_lacks 50 = .ok (.goto 8, 3) := by decide +kernel
theorem dX8_lacks_53 : decode cX8_lacks 53 = .ok (.aload_n 0, 1) := by decide +kernel
theorem dX8_lacks_54 : decode cX8_lacks 54 = .ok (.iconst 2, 1) := by decide +kernel
theorem dX8_lacks_55 : decode cX8_lacks 55 = .ok (.invokevirtual 64, 3) := by decide +kernel
theorem dX8_lacks_58 : decode cX8_lacks 58 = .ok (.ireturn, 1) := by decide +kernel
theorem dX8_cut_0 : decode cX8_cut 0 = .ok (.iload_n 0, 1) := by decide +kernel
theorem dX8_cut_1 : decode cX8_cut 1 = .ok (.ifCond .ne 8, 3) := by decide +kernel
theorem dX8_cut_4 : decode cX8_cut 4 = .ok (.iload_n 1, 1) := by decide +kernel
theorem dX8_cut_5 : decode cX8_cut 5 = .ok (.i2b, 1) := by decide +kernel
theorem dX8_cut_6 : decode cX8_cut 6 = .ok (.goto 14, 3) := by decide +kernel
theorem dX8_cut_9 : decode cX8_cut 9 = .ok (.iload_n 0, 1) := by decide +kernel
theorem dX8_cut_10 : decode cX8_cut 10 = .ok (.iconst 1, 1) := by decide +kernel
theorem dX8_cut_11 : decode cX8_cut 11 = .ok (.if_icmp .ne 8, 3) := by decide +kernel
theorem dX8_cut_14 : decode cX8_cut 14 = .ok (.iload_n 1, 1) := by decide +kernel
theorem dX8_cut_15 : decode cX8_cut 15 = .ok (.i2s, 1) := by decide +kernel
theorem dX8_cut_16 : decode cX8_cut 16 = .ok (.goto 4, 3) := by decide +kernel
theorem dX8_cut_19 : decode cX8_cut 19 = .ok (.iload_n 1, 1) := by decide +kernel
theorem dX8_cut_20 : decode cX8_cut 20 = .ok (.ireturn, 1) := by decide +kernel
theorem dX8_lay_0 : decode cX8_lay 0 = .ok (.iload_n 1, 1) := by decide +kernel
theorem dX8_lay_1 : decode cX8_lay 1 = .ok (.invokestatic 58, 3) := by decide +kernel
theorem dX8_lay_4 : decode cX8_lay 4 = .ok (.ifCond .eq 15, 3) := by decide +kernel
theorem dX8_lay_7 : decode cX8_lay 7 = .ok (.iload_n 2, 1) := by decide +kernel
theorem dX8_lay_8 : decode cX8_lay 8 = .ok (.i2l, 1) := by decide +kernel
theorem dX8_lay_9 : decode cX8_lay 9 = .ok (.lconst 0, 1) := by decide +kernel
theorem dX8_lay_10 : decode cX8_lay 10 = .ok (.ldc2_w 62, 3) := by decide +kernel
theorem dX8_lay_13 : decode cX8_lay 13 = .ok (.invokestatic 48, 3) := by decide +kernel
theorem dX8_lay_16 : decode cX8_lay 16 = .ok (.ifCond .ne 6, 3) := by decide +kernel
theorem dX8_lay_19 : decode cX8_lay 19 = .ok (.bipush (-2), 2) := by decide +kernel
theorem dX8_lay_21 : decode cX8_lay 21 = .ok (.ireturn, 1) := by decide +kernel
theorem dX8_lay_22 : decode cX8_lay 22 = .ok (.aload_n 0, 1) := by decide +kernel
theorem dX8_lay_23 : decode cX8_lay 23 = .ok (.iload_n 1, 1) := by decide +kernel
theorem dX8_lay_24 : decode cX8_lay 24 = .ok (.iload_n 2, 1) := by decide +kernel
theorem dX8_lay_25 : decode cX8_lay 25 = .ok (.iload_n 3, 1) := by decide +kernel
theorem dX8_lay_26 : decode cX8_lay 26 = .ok (.invokevirtual 68, 3) := by decide +kernel
theorem dX8_lay_29 : decode cX8_lay 29 = .ok (.istore 5, 2) := by decide +kernel
theorem dX8_lay_31 : decode cX8_lay 31 = .ok (.iload 5, 2) := by decide +kernel
theorem dX8_lay_33 : decode cX8_lay 33 = .ok (.ifCond .eq 6, 3) := by decide +kernel
theorem dX8_lay_36 : decode cX8_lay 36 = .ok (.iload 5, 2) := by decide +kernel
theorem dX8_lay_38 : decode cX8_lay 38 = .ok (.ireturn, 1) := by decide +kernel
theorem dX8_lay_39 : decode cX8_lay 39 = .ok (.aload_n 0, 1) := by decide +kernel
theorem dX8_lay_40 : decode cX8_lay 40 = .ok (.getfield 16, 3) := by decide +kernel
theorem dX8_lay_43 : decode cX8_lay 43 = .ok (.bipush 60, 2) := by decide +kernel
theorem dX8_lay_45 : decode cX8_lay 45 = .ok (.iload_n 1, 1) := by decide +kernel
theorem dX8_lay_46 : decode cX8_lay 46 = .ok (.imul, 1) := by decide +kernel
theorem dX8_lay_47 : decode cX8_lay 47 = .ok (.iload_n 3, 1) := by decide +kernel
theorem dX8_lay_48 : decode cX8_lay 48 = .ok (.iadd, 1) := by decide +kernel
theorem dX8_lay_49 : decode cX8_lay 49 = .ok (.iload_n 2, 1) := by decide +kernel
theorem dX8_lay_50 : decode cX8_lay 50 = .ok (.iload 4, 2) := by decide +kernel
theorem dX8_lay_52 : decode cX8_lay 52 = .ok (.invokestatic 72, 3) := by decide +kernel
theorem dX8_lay_55 : decode cX8_lay 55 = .ok (.iastore, 1) := by decide +kernel
theorem dX8_lay_56 : decode cX8_lay 56 = .ok (.iconst 1, 1) := by decide +kernel
theorem dX8_lay_57 : decode cX8_lay 57 = .ok (.ireturn, 1) := by decide +kernel
theorem dX8_get_0 : decode cX8_get 0 = .ok (.iload_n 1, 1) := by decide +kernel
theorem dX8_get_1 : decode cX8_get 1 = .ok (.invokestatic 58, 3) := by decide +kernel
theorem dX8_get_4 : decode cX8_get 4 = .ok (.ifCond .eq 25, 3) := by decide +kernel
theorem dX8_get_7 : decode cX8_get 7 = .ok (.iload_n 2, 1) := by decide +kernel
theorem dX8_get_8 : decode cX8_get 8 = .ok (.i2l, 1) := by decide +kernel
theorem dX8_get_9 : decode cX8_get 9 = .ok (.lconst 0, 1) := by decide +kernel
theorem dX8_get_10 : decode cX8_get 10 = .ok (.ldc2_w 62, 3) := by decide +kernel
theorem dX8_get_13 : decode cX8_get 13 = .ok (.invokestatic 48, 3) := by decide +kernel
theorem dX8_get_16 : decode cX8_get 16 = .ok (.ifCond .eq 13, 3) := by decide +kernel
theorem dX8_get_19 : decode cX8_get 19 = .ok (.aload_n 0, 1) := by decide +kernel
theorem dX8_get_20 : decode cX8_get 20 = .ok (.iload_n 1, 1) := by decide +kernel
theorem dX8_get_21 : decode cX8_get 21 = .ok (.iload_n 2, 1) := by decide +kernel
theorem dX8_get_22 : decode cX8_get 22 = .ok (.iload_n 3, 1) := by decide +kernel
theorem dX8_get_23 : decode cX8_get 23 = .ok (.invokevirtual 68, 3) := by decide +kernel
theorem dX8_get_26 : decode cX8_get 26 = .ok (.ifCond .eq 6, 3) := by decide +kernel
theorem dX8_get_29 : decode cX8_get 29 = .ok (.ldc 76, 2) := by decide +kernel
theorem dX8_get_31 : decode cX8_get 31 = .ok (.ireturn, 1) := by decide +kernel
theorem dX8_get_32 : decode cX8_get 32 = .ok (.aload_n 0, 1) := by decide +kernel
theorem dX8_get_33 : decode cX8_get 33 = .ok (.getfield 16, 3) := by decide +kernel
theorem dX8_get_36 : decode cX8_get 36 = .ok (.bipush 60, 2) := by decide +kernel
theorem dX8_get_38 : decode cX8_get 38 = .ok (.iload_n 1, 1) := by decide +kernel
theorem dX8_get_39 : decode cX8_get 39 = .ok (.imul, 1) := by decide +kernel
theorem dX8_get_40 : decode cX8_get 40 = .ok (.iload_n 3, 1) := by decide +kernel
theorem dX8_get_41 : decode cX8_get 41 = .ok (.iadd, 1) := by decide +kernel
theorem dX8_get_42 : decode cX8_get 42 = .ok (.iaload, 1) := by decide +kernel
theorem dX8_get_43 : decode cX8_get 43 = .ok (.ireturn, 1) := by decide +kernel
theorem dX8_copy_0 : decode cX8_copy 0 = .ok (.iload_n 1, 1) := by decide +kernel
theorem dX8_copy_1 : decode cX8_copy 1 = .ok (.invokestatic 58, 3) := by decide +kernel
theorem dX8_copy_4 : decode cX8_copy 4 = .ok (.ifCond .eq 10, 3) := by decide +kernel
theorem dX8_copy_7 : decode cX8_copy 7 = .ok (.iload_n 3, 1) := by decide +kernel
theorem dX8_copy_8 : decode cX8_copy 8 = .ok (.invokestatic 58, 3) := by decide +kernel
theorem dX8_copy_11 : decode cX8_copy 11 = .ok (.ifCond .ne 6, 3) := by decide +kernel
theorem dX8_copy_14 : decode cX8_copy 14 = .ok (.bipush (-2), 2) := by decide +kernel
theorem dX8_copy_16 : decode cX8_copy 16 = .ok (.ireturn, 1) := by decide +kernel
theorem dX8_copy_17 : decode cX8_copy 17 = .ok (.aload_n 0, 1) := by decide +kernel
theorem dX8_copy_18 : decode cX8_copy 18 = .ok (.getfield 7, 3) := by decide +kernel
theorem dX8_copy_21 : decode cX8_copy 21 = .ok (.iload_n 1, 1) := by decide +kernel
theorem dX8_copy_22 : decode cX8_copy 22 = .ok (.iaload, 1) := by decide +kernel
theorem dX8_copy_23 : decode cX8_copy 23 = .ok (.ifCond .lt 12, 3) := by decide +kernel
theorem dX8_copy_26 : decode cX8_copy 26 = .ok (.aload_n 0, 1) := by decide +kernel
theorem dX8_copy_27 : decode cX8_copy 27 = .ok (.getfield 7, 3) := by decide +kernel
theorem dX8_copy_30 : decode cX8_copy 30 = .ok (.iload_n 3, 1) := by decide +kernel
theorem dX8_copy_31 : decode cX8_copy 31 = .ok (.iaload, 1) := by decide +kernel
theorem dX8_copy_32 : decode cX8_copy 32 = .ok (.ifCond .ge 9, 3) := by decide +kernel
theorem dX8_copy_35 : decode cX8_copy 35 = .ok (.aload_n 0, 1) := by decide +kernel
theorem dX8_copy_36 : decode cX8_copy 36 = .ok (.iconst 1, 1) := by decide +kernel
theorem dX8_copy_37 : decode cX8_copy 37 = .ok (.invokevirtual 64, 3) := by decide +kernel
theorem dX8_copy_40 : decode cX8_copy 40 = .ok (.ireturn, 1) := by decide +kernel
theorem dX8_copy_41 : decode cX8_copy 41 = .ok (.aload_n 0, 1) := by decide +kernel
theorem dX8_copy_42 : decode cX8_copy 42 = .ok (.getfield 7, 3) := by decide +kernel
theorem dX8_copy_45 : decode cX8_copy 45 = .ok (.iload_n 1, 1) := by decide +kernel
theorem dX8_copy_46 : decode cX8_copy 46 = .ok (.iaload, 1) := by decide +kernel
theorem dX8_copy_47 : decode cX8_copy 47 = .ok (.aload_n 0, 1) := by decide +kernel
theorem dX8_copy_48 : decode cX8_copy 48 = .ok (.getfield 7, 3) := by decide +kernel
theorem dX8_copy_51 : decode cX8_copy 51 = .ok (.iload_n 3, 1) := by decide +kernel
theorem dX8_copy_52 : decode cX8_copy 52 = .ok (.iaload, 1) := by decide +kernel
theorem dX8_copy_53 : decode cX8_copy 53 = .ok (.if_icmp .eq 9, 3) := by decide +kernel
theorem dX8_copy_56 : decode cX8_copy 56 = .ok (.aload_n 0, 1) := by decide +kernel
theorem dX8_copy_57 : decode cX8_copy 57 = .ok (.iconst 4, 1) := by decide +kernel
theorem dX8_copy_58 : decode cX8_copy 58 = .ok (.invokevirtual 64, 3) := by decide +kernel
theorem dX8_copy_61 : decode cX8_copy 61 = .ok (.ireturn, 1) := by decide +kernel
theorem dX8_copy_62 : decode cX8_copy 62 = .ok (.iload_n 2, 1) := by decide +kernel
theorem dX8_copy_63 : decode cX8_copy 63 = .ok (.ifCond .lt 48, 3) := by decide +kernel
theorem dX8_copy_66 : decode cX8_copy 66 = .ok (.iload 4, 2) := by decide +kernel
theorem dX8_copy_68 : decode cX8_copy 68 = .ok (.ifCond .lt 43, 3) := by decide +kernel
theorem dX8_copy_71 : decode cX8_copy 71 = .ok (.iload 5, 2) := by decide +kernel
theorem dX8_copy_73 : decode cX8_copy 73 = .ok (.ifCond .lt 38, 3) := by decide +kernel
theorem dX8_copy_76 : decode cX8_copy 76 = .ok (.iload_n 2, 1) := by decide +kernel
theorem dX8_copy_77 : decode cX8_copy 77 = .ok (.i2l, 1) := by decide +kernel
theorem dX8_copy_78 : decode cX8_copy 78 = .ok (.iload 5, 2) := by decide +kernel
theorem dX8_copy_80 : decode cX8_copy 80 = .ok (.i2l, 1) := by decide +kernel
theorem dX8_copy_81 : decode cX8_copy 81 = .ok (.ladd, 1) := by decide +kernel
theorem dX8_copy_82 : decode cX8_copy 82 = .ok (.aload_n 0, 1) := by decide +kernel
theorem dX8_copy_83 : decode cX8_copy 83 = .ok (.getfield 13, 3) := by decide +kernel
theorem dX8_copy_86 : decode cX8_copy 86 = .ok (.iload_n 1, 1) := by decide +kernel
theorem dX8_copy_87 : decode cX8_copy 87 = .ok (.iaload, 1) := by decide +kernel
theorem dX8_copy_88 : decode cX8_copy 88 = .ok (.i2l, 1) := by decide +kernel
theorem dX8_copy_89 : decode cX8_copy 89 = .ok (.lcmp, 1) := by decide +kernel
theorem dX8_copy_90 : decode cX8_copy 90 = .ok (.ifCond .gt 21, 3) := by decide +kernel
theorem dX8_copy_93 : decode cX8_copy 93 = .ok (.iload 4, 2) := by decide +kernel
theorem dX8_copy_95 : decode cX8_copy 95 = .ok (.i2l, 1) := by decide +kernel
theorem dX8_copy_96 : decode cX8_copy 96 = .ok (.iload 5, 2) := by decide +kernel
theorem dX8_copy_98 : decode cX8_copy 98 = .ok (.i2l, 1) := by decide +kernel
theorem dX8_copy_99 : decode cX8_copy 99 = .ok (.ladd, 1) := by decide +kernel
theorem dX8_copy_100 : decode cX8_copy 100 = .ok (.aload_n 0, 1) := by decide +kernel
theorem dX8_copy_101 : decode cX8_copy 101 = .ok (.getfield 13, 3) := by decide +kernel
theorem dX8_copy_104 : decode cX8_copy 104 = .ok (.iload_n 3, 1) := by decide +kernel
theorem dX8_copy_105 : decode cX8_copy 105 = .ok (.iaload, 1) := by decide +kernel
theorem dX8_copy_106 : decode cX8_copy 106 = .ok (.i2l, 1) := by decide +kernel
theorem dX8_copy_107 : decode cX8_copy 107 = .ok (.lcmp, 1) := by decide +kernel
theorem dX8_copy_108 : decode cX8_copy 108 = .ok (.ifCond .le 9, 3) := by decide +kernel
theorem dX8_copy_111 : decode cX8_copy 111 = .ok (.aload_n 0, 1) := by decide +kernel
theorem dX8_copy_112 : decode cX8_copy 112 = .ok (.iconst 2, 1) := by decide +kernel
theorem dX8_copy_113 : decode cX8_copy 113 = .ok (.invokevirtual 64, 3) := by decide +kernel
theorem dX8_copy_116 : decode cX8_copy 116 = .ok (.ireturn, 1) := by decide +kernel
theorem dX8_copy_117 : decode cX8_copy 117 = .ok (.iconst 0, 1) := by decide +kernel
theorem dX8_copy_118 : decode cX8_copy 118 = .ok (.istore 6, 2) := by decide +kernel
theorem dX8_copy_120 : decode cX8_copy 120 = .ok (.iload 6, 2) := by decide +kernel
theorem dX8_copy_122 : decode cX8_copy 122 = .ok (.iload 5, 2) := by decide +kernel
theorem dX8_copy_124 : decode cX8_copy 124 = .ok (.if_icmp .ge 30, 3) := by decide +kernel
theorem dX8_copy_127 : decode cX8_copy 127 = .ok (.aload_n 0, 1) := by decide +kernel
theorem dX8_copy_128 : decode cX8_copy 128 = .ok (.getfield 19, 3) := by decide +kernel
theorem dX8_copy_131 : decode cX8_copy 131 = .ok (.iload 6, 2) := by decide +kernel
theorem dX8_copy_133 : decode cX8_copy 133 = .ok (.aload_n 0, 1) := by decide +kernel
theorem dX8_copy_134 : decode cX8_copy 134 = .ok (.getfield 16, 3) := by decide +kernel
theorem dX8_copy_137 : decode cX8_copy 137 = .ok (.bipush 60, 2) := by decide +kernel
theorem dX8_copy_139 : decode cX8_copy 139 = .ok (.iload_n 1, 1) := by decide +kernel
theorem dX8_copy_140 : decode cX8_copy 140 = .ok (.imul, 1) := by decide +kernel
theorem dX8_copy_141 : decode cX8_copy 141 = .ok (.iload_n 2, 1) := by decide +kernel
theorem dX8_copy_142 : decode cX8_copy 142 = .ok (.iadd, 1) := by decide +kernel
theorem dX8_copy_143 : decode cX8_copy 143 = .ok (.iload 6, 2) := by decide +kernel
theorem dX8_copy_145 : decode cX8_copy 145 = .ok (.iadd, 1) := by decide +kernel
theorem dX8_copy_146 : decode cX8_copy 146 = .ok (.iaload, 1) := by decide +kernel
theorem dX8_copy_147 : decode cX8_copy 147 = .ok (.iastore, 1) := by decide +kernel
theorem dX8_copy_148 : decode cX8_copy 148 = .ok (.iinc 6 1, 3) := by decide +kernel
theorem dX8_copy_151 : decode cX8_copy 151 = .ok (.goto (-31), 3) := by decide +kernel
theorem dX8_copy_154 : decode cX8_copy 154 = .ok (.iconst 0, 1) := by decide +kernel
theorem dX8_copy_155 : decode cX8_copy 155 = .ok (.istore 6, 2) := by decide +kernel
theorem dX8_copy_157 : decode cX8_copy 157 = .ok (.iload 6, 2) := by decide +kernel
theorem dX8_copy_159 : decode cX8_copy 159 = .ok (.iload 5, 2) := by decide +kernel
theorem dX8_copy_161 : decode cX8_copy 161 = .ok (.if_icmp .ge 31, 3) := by decide +kernel
theorem dX8_copy_164 : decode cX8_copy 164 = .ok (.aload_n 0, 1) := by decide +kernel
theorem dX8_copy_165 : decode cX8_copy 165 = .ok (.getfield 16, 3) := by decide +kernel
theorem dX8_copy_168 : decode cX8_copy 168 = .ok (.bipush 60, 2) := by decide +kernel
theorem dX8_copy_170 : decode cX8_copy 170 = .ok (.iload_n 3, 1) := by decide +kernel
theorem dX8_copy_171 : decode cX8_copy 171 = .ok (.imul, 1) := by decide +kernel
theorem dX8_copy_172 : decode cX8_copy 172 = .ok (.iload 4, 2) := by decide +kernel
theorem dX8_copy_174 : decode cX8_copy 174 = .ok (.iadd, 1) := by decide +kernel
theorem dX8_copy_175 : decode cX8_copy 175 = .ok (.iload 6, 2) := by decide +kernel
theorem dX8_copy_177 : decode cX8_copy 177 = .ok (.iadd, 1) := by decide +kernel
theorem dX8_copy_178 : decode cX8_copy 178 = .ok (.aload_n 0, 1) := by decide +kernel
theorem dX8_copy_179 : decode cX8_copy 179 = .ok (.getfield 19, 3) := by decide +kernel
theorem dX8_copy_182 : decode cX8_copy 182 = .ok (.iload 6, 2) := by decide +kernel
theorem dX8_copy_184 : decode cX8_copy 184 = .ok (.iaload, 1) := by decide +kernel
theorem dX8_copy_185 : decode cX8_copy 185 = .ok (.iastore, 1) := by decide +kernel
theorem dX8_copy_186 : decode cX8_copy 186 = .ok (.iinc 6 1, 3) := by decide +kernel
theorem dX8_copy_189 : decode cX8_copy 189 = .ok (.goto (-32), 3) := by decide +kernel
theorem dX8_copy_192 : decode cX8_copy 192 = .ok (.iconst 1, 1) := by decide +kernel
theorem dX8_copy_193 : decode cX8_copy 193 = .ok (.ireturn, 1) := by decide +kernel
theorem dX8_type_0 : decode cX8_type 0 = .ok (.iload_n 1, 1) := by decide +kernel
theorem dX8_type_1 : decode cX8_type 1 = .ok (.i2l, 1) := by decide +kernel
theorem dX8_type_2 : decode cX8_type 2 = .ok (.lconst 0, 1) := by decide +kernel
theorem dX8_type_3 : decode cX8_type 3 = .ok (.ldc2_w 77, 3) := by decide +kernel
theorem dX8_type_6 : decode cX8_type 6 = .ok (.invokestatic 48, 3) := by decide +kernel
theorem dX8_type_9 : decode cX8_type 9 = .ok (.ifCond .ne 6, 3) := by decide +kernel
theorem dX8_type_12 : decode cX8_type 12 = .ok (.bipush (-2), 2) := by decide +kernel
theorem dX8_type_14 : decode cX8_type 14 = .ok (.ireturn, 1) := by decide +kernel
theorem dX8_type_15 : decode cX8_type 15 = .ok (.aload_n 0, 1) := by decide +kernel
theorem dX8_type_16 : decode cX8_type 16 = .ok (.getfield 79, 3) := by decide +kernel
theorem dX8_type_19 : decode cX8_type 19 = .ok (.bipush 40, 2) := by decide +kernel
theorem dX8_type_21 : decode cX8_type 21 = .ok (.if_icmp .ne 6, 3) := by decide +kernel
theorem dX8_type_24 : decode cX8_type 24 = .ok (.bipush (-4), 2) := by decide +kernel
theorem dX8_type_26 : decode cX8_type 26 = .ok (.ireturn, 1) := by decide +kernel
theorem dX8_type_27 : decode cX8_type 27 = .ok (.aload_n 0, 1) := by decide +kernel
theorem dX8_type_28 : decode cX8_type 28 = .ok (.getfield 22, 3) := by decide +kernel
theorem dX8_type_31 : decode cX8_type 31 = .ok (.aload_n 0, 1) := by decide +kernel
theorem dX8_type_32 : decode cX8_type 32 = .ok (.getfield 79, 3) := by decide +kernel
theorem dX8_type_35 : decode cX8_type 35 = .ok (.iload_n 1, 1) := by decide +kernel
theorem dX8_type_36 : decode cX8_type 36 = .ok (.iastore, 1) := by decide +kernel
theorem dX8_type_37 : decode cX8_type 37 = .ok (.aload_n 0, 1) := by decide +kernel
theorem dX8_type_38 : decode cX8_type 38 = .ok (.dup, 1) := by decide +kernel
theorem dX8_type_39 : decode cX8_type 39 = .ok (.getfield 79, 3) := by decide +kernel
theorem dX8_type_42 : decode cX8_type 42 = .ok (.iconst 1, 1) := by decide +kernel
theorem dX8_type_43 : decode cX8_type 43 = .ok (.iadd, 1) := by decide +kernel
theorem dX8_type_44 : decode cX8_type 44 = .ok (.putfield 79, 3) := by decide +kernel
theorem dX8_type_47 : decode cX8_type 47 = .ok (.aload_n 0, 1) := by decide +kernel
theorem dX8_type_48 : decode cX8_type 48 = .ok (.getfield 79, 3) := by decide +kernel
theorem dX8_type_51 : decode cX8_type 51 = .ok (.ireturn, 1) := by decide +kernel
theorem dX8_wipe_0 : decode cX8_wipe 0 = .ok (.aload_n 0, 1) := by decide +kernel
theorem dX8_wipe_1 : decode cX8_wipe 1 = .ok (.getfield 79, 3) := by decide +kernel
theorem dX8_wipe_4 : decode cX8_wipe 4 = .ok (.istore_n 1, 1) := by decide +kernel
theorem dX8_wipe_5 : decode cX8_wipe 5 = .ok (.aload_n 0, 1) := by decide +kernel
theorem dX8_wipe_6 : decode cX8_wipe 6 = .ok (.iconst 0, 1) := by decide +kernel
theorem dX8_wipe_7 : decode cX8_wipe 7 = .ok (.putfield 79, 3) := by decide +kernel
theorem dX8_wipe_10 : decode cX8_wipe 10 = .ok (.iload_n 1, 1) := by decide +kernel
theorem dX8_wipe_11 : decode cX8_wipe 11 = .ok (.ireturn, 1) := by decide +kernel
theorem dX8_undo_0 : decode cX8_undo 0 = .ok (.aload_n 0, 1) := by decide +kernel
theorem dX8_undo_1 : decode cX8_undo 1 = .ok (.getfield 79, 3) := by decide +kernel
theorem dX8_undo_4 : decode cX8_undo 4 = .ok (.ifCond .ne 6, 3) := by decide +kernel
theorem dX8_undo_7 : decode cX8_undo 7 = .ok (.bipush (-3), 2) := by decide +kernel
theorem dX8_undo_9 : decode cX8_undo 9 = .ok (.ireturn, 1) := by decide +kernel
theorem dX8_undo_10 : decode cX8_undo 10 = .ok (.aload_n 0, 1) := by decide +kernel
theorem dX8_undo_11 : decode cX8_undo 11 = .ok (.dup, 1) := by decide +kernel
theorem dX8_undo_12 : decode cX8_undo 12 = .ok (.getfield 79, 3) := by decide +kernel
theorem dX8_undo_15 : decode cX8_undo 15 = .ok (.iconst 1, 1) := by decide +kernel
theorem dX8_undo_16 : decode cX8_undo 16 = .ok (.isub, 1) := by decide +kernel
theorem dX8_undo_17 : decode cX8_undo 17 = .ok (.putfield 79, 3) := by decide +kernel
theorem dX8_undo_20 : decode cX8_undo 20 = .ok (.aload_n 0, 1) := by decide +kernel
theorem dX8_undo_21 : decode cX8_undo 21 = .ok (.getfield 79, 3) := by decide +kernel
theorem dX8_undo_24 : decode cX8_undo 24 = .ok (.ireturn, 1) := by decide +kernel
theorem dX8_here_0 : decode cX8_here 0 = .ok (.aload_n 0, 1) := by decide +kernel
theorem dX8_here_1 : decode cX8_here 1 = .ok (.getfield 82, 3) := by decide +kernel
theorem dX8_here_4 : decode cX8_here 4 = .ok (.aload_n 0, 1) := by decide +kernel
theorem dX8_here_5 : decode cX8_here 5 = .ok (.getfield 79, 3) := by decide +kernel
theorem dX8_here_8 : decode cX8_here 8 = .ok (.if_icmp .ge 15, 3) := by decide +kernel
theorem dX8_here_11 : decode cX8_here 11 = .ok (.aload_n 0, 1) := by decide +kernel
theorem dX8_here_12 : decode cX8_here 12 = .ok (.getfield 22, 3) := by decide +kernel
theorem dX8_here_15 : decode cX8_here 15 = .ok (.aload_n 0, 1) := by decide +kernel
theorem dX8_here_16 : decode cX8_here 16 = .ok (.getfield 82, 3) := by decide +kernel
theorem dX8_here_19 : decode cX8_here 19 = .ok (.iaload, 1) := by decide +kernel
theorem dX8_here_20 : decode cX8_here 20 = .ok (.goto 4, 3) := by decide +kernel
theorem dX8_here_23 : decode cX8_here 23 = .ok (.iconst (-1), 1) := by decide +kernel
theorem dX8_here_24 : decode cX8_here 24 = .ok (.ireturn, 1) := by decide +kernel
theorem dX8_nobody_0 : decode cX8_nobody 0 = .ok (.aload_n 0, 1) := by decide +kernel
theorem dX8_nobody_1 : decode cX8_nobody 1 = .ok (.iconst 0, 1) := by decide +kernel
theorem dX8_nobody_2 : decode cX8_nobody 2 = .ok (.putfield 85, 3) := by decide +kernel
theorem dX8_nobody_5 : decode cX8_nobody 5 = .ok (.aload_n 0, 1) := by decide +kernel
theorem dX8_nobody_6 : decode cX8_nobody 6 = .ok (.getfield 82, 3) := by decide +kernel
theorem dX8_nobody_9 : decode cX8_nobody 9 = .ok (.ireturn, 1) := by decide +kernel
theorem dX8_readsPart_0 : decode cX8_readsPart 0 = .ok (.aload_n 0, 1) := by decide +kernel
theorem dX8_readsPart_1 : decode cX8_readsPart 1 = .ok (.getfield 85, 3) := by decide +kernel
theorem dX8_readsPart_4 : decode cX8_readsPart 4 = .ok (.iconst 5, 1) := by decide +kernel
theorem dX8_readsPart_5 : decode cX8_readsPart 5 = .ok (.if_icmp .ne 5, 3) := by decide +kernel
theorem dX8_readsPart_8 : decode cX8_readsPart 8 = .ok (.iconst 0, 1) := by decide +kernel
theorem dX8_readsPart_9 : decode cX8_readsPart 9 = .ok (.ireturn, 1) := by decide +kernel
theorem dX8_readsPart_10 : decode cX8_readsPart 10 = .ok (.iconst 0, 1) := by decide +kernel
theorem dX8_readsPart_11 : decode cX8_readsPart 11 = .ok (.istore_n 1, 1) := by decide +kernel
theorem dX8_readsPart_12 : decode cX8_readsPart 12 = .ok (.iconst 0, 1) := by decide +kernel
theorem dX8_readsPart_13 : decode cX8_readsPart 13 = .ok (.istore_n 2, 1) := by decide +kernel
theorem dX8_readsPart_14 : decode cX8_readsPart 14 = .ok (.iconst 0, 1) := by decide +kernel
theorem dX8_readsPart_15 : decode cX8_readsPart 15 = .ok (.istore_n 3, 1) := by decide +kernel
theorem dX8_readsPart_16 : decode cX8_readsPart 16 = .ok (.iload_n 3, 1) := by decide +kernel
theorem dX8_readsPart_17 : decode cX8_readsPart 17 = .ok (.bipush 6, 2) := by decide +kernel
theorem dX8_readsPart_19 : decode cX8_readsPart 19 = .ok (.if_icmp .ge 176, 3) := by decide +kernel
theorem dX8_readsPart_22 : decode cX8_readsPart 22 = .ok (.aload_n 0, 1) := by decide +kernel
theorem dX8_readsPart_23 : decode cX8_readsPart 23 = .ok (.invokevirtual 88, 3) := by decide +kernel
theorem dX8_readsPart_26 : decode cX8_readsPart 26 = .ok (.bipush 48, 2) := by decide +kernel
theorem dX8_readsPart_28 : decode cX8_readsPart 28 = .ok (.isub, 1) := by decide +kernel
theorem dX8_readsPart_29 : decode cX8_readsPart 29 = .ok (.istore 4, 2) := by decide +kernel
theorem dX8_readsPart_31 : decode cX8_readsPart 31 = .ok (.iload 4, 2) := by decide +kernel
theorem dX8_readsPart_33 : decode cX8_readsPart 33 = .ok (.i2l, 1) := by decide +kernel
theorem dX8_readsPart_34 : decode cX8_readsPart 34 = .ok (.iload_n 3, 1) := by decide +kernel
theorem dX8_readsPart_35 : decode cX8_readsPart 35 = .ok (.iconst 5, 1) := by decide +kernel
theorem dX8_readsPart_36 : decode cX8_readsPart 36 = .ok (.if_icmp .ne 7, 3) := by decide +kernel
theorem dX8_readsPart_39 : decode cX8_readsPart 39 = .ok (.lconst 1, 1) := by decide +kernel
theorem dX8_readsPart_40 : decode cX8_readsPart 40 = .ok (.goto 4, 3) := by decide +kernel
theorem dX8_readsPart_43 : decode cX8_readsPart 43 = .ok (.lconst 0, 1) := by decide +kernel
theorem dX8_readsPart_44 : decode cX8_readsPart 44 = .ok (.iload_n 3, 1) := by decide +kernel
theorem dX8_readsPart_45 : decode cX8_readsPart 45 = .ok (.iconst 5, 1) := by decide +kernel
theorem dX8_readsPart_46 : decode cX8_readsPart 46 = .ok (.if_icmp .ne 9, 3) := by decide +kernel
theorem dX8_readsPart_49 : decode cX8_readsPart 49 = .ok (.ldc2_w 56, 3) := by decide +kernel
theorem dX8_readsPart_52 : decode cX8_readsPart 52 = .ok (.goto 6, 3) := by decide +kernel
theorem dX8_readsPart_55 : decode cX8_readsPart 55 = .ok (.ldc2_w 92, 3) := by decide +kernel
theorem dX8_readsPart_58 : decode cX8_readsPart 58 = .ok (.invokestatic 48, 3) := by decide +kernel
theorem dX8_readsPart_61 : decode cX8_readsPart 61 = .ok (.ifCond .ne 5, 3) := by decide +kernel
theorem dX8_readsPart_64 : decode cX8_readsPart 64 = .ok (.iconst 0, 1) := by decide +kernel
theorem dX8_readsPart_65 : decode cX8_readsPart 65 = .ok (.ireturn, 1) := by decide +kernel
theorem dX8_readsPart_66 : decode cX8_readsPart 66 = .ok (.iload_n 3, 1) := by decide +kernel
theorem dX8_readsPart_67 : decode cX8_readsPart 67 = .ok (.iconst 2, 1) := by decide +kernel
theorem dX8_readsPart_68 : decode cX8_readsPart 68 = .ok (.if_icmp .ge 13, 3) := by decide +kernel
theorem dX8_readsPart_71 : decode cX8_readsPart 71 = .ok (.bipush 10, 2) := by decide +kernel
theorem dX8_readsPart_73 : decode cX8_readsPart 73 = .ok (.iload_n 1, 1) := by decide +kernel
theorem dX8_readsPart_74 : decode cX8_readsPart 74 = .ok (.imul, 1) := by decide +kernel
theorem dX8_readsPart_75 : decode cX8_readsPart 75 = .ok (.iload 4, 2) := by decide +kernel
theorem dX8_readsPart_77 : decode cX8_readsPart 77 = .ok (.iadd, 1) := by decide +kernel
theorem dX8_readsPart_78 : decode cX8_readsPart 78 = .ok (.goto 4, 3) := by decide +kernel
theorem dX8_readsPart_81 : decode cX8_readsPart 81 = .ok (.iload_n 1, 1) := by decide +kernel
theorem dX8_readsPart_82 : decode cX8_readsPart 82 = .ok (.istore_n 1, 1) := by decide +kernel
theorem dX8_readsPart_83 : decode cX8_readsPart 83 = .ok (.iload_n 3, 1) := by decide +kernel
theorem dX8_readsPart_84 : decode cX8_readsPart 84 = .ok (.iconst 2, 1) := by decide +kernel
theorem dX8_readsPart_85 : decode cX8_readsPart 85 = .ok (.if_icmp .eq 8, 3) := by decide +kernel
theorem dX8_readsPart_88 : decode cX8_readsPart 88 = .ok (.iload_n 3, 1) := by decide +kernel
theorem dX8_readsPart_89 : decode cX8_readsPart 89 = .ok (.iconst 3, 1) := by decide +kernel
theorem dX8_readsPart_90 : decode cX8_readsPart 90 = .ok (.if_icmp .ne 13, 3) := by decide +kernel
theorem dX8_readsPart_93 : decode cX8_readsPart 93 = .ok (.bipush 10, 2) := by decide +kernel
theorem dX8_readsPart_95 : decode cX8_readsPart 95 = .ok (.iload_n 2, 1) := by decide +kernel
theorem dX8_readsPart_96 : decode cX8_readsPart 96 = .ok (.imul, 1) := by decide +kernel
theorem dX8_readsPart_97 : decode cX8_readsPart 97 = .ok (.iload 4, 2) := by decide +kernel
theorem dX8_readsPart_99 : decode cX8_readsPart 99 = .ok (.iadd, 1) := by decide +kernel
theorem dX8_readsPart_100 : decode cX8_readsPart 100 = .ok (.goto 4, 3) := by decide +kernel
theorem dX8_readsPart_103 : decode cX8_readsPart 103 = .ok (.iload_n 2, 1) := by decide +kernel
theorem dX8_readsPart_104 : decode cX8_readsPart 104 = .ok (.istore_n 2, 1) := by decide +kernel
theorem dX8_readsPart_105 : decode cX8_readsPart 105 = .ok (.iload_n 3, 1) := by decide +kernel
theorem dX8_readsPart_106 : decode cX8_readsPart 106 = .ok (.iconst 1, 1) := by decide +kernel
theorem dX8_readsPart_107 : decode cX8_readsPart 107 = .ok (.if_icmp .ne 7, 3) := by decide +kernel
theorem dX8_readsPart_110 : decode cX8_readsPart 110 = .ok (.iload_n 1, 1) := by decide +kernel
theorem dX8_readsPart_111 : decode cX8_readsPart 111 = .ok (.ifCond .eq 13, 3) := by decide +kernel
theorem dX8_readsPart_114 : decode cX8_readsPart 114 = .ok (.iload_n 3, 1) := by decide +kernel
theorem dX8_readsPart_115 : decode cX8_readsPart 115 = .ok (.iconst 3, 1) := by decide +kernel
theorem dX8_readsPart_116 : decode cX8_readsPart 116 = .ok (.if_icmp .ne 10, 3) := by decide +kernel
theorem dX8_readsPart_119 : decode cX8_readsPart 119 = .ok (.iload_n 2, 1) := by decide +kernel
theorem dX8_readsPart_120 : decode cX8_readsPart 120 = .ok (.iload_n 1, 1) := by decide +kernel
theorem dX8_readsPart_121 : decode cX8_readsPart 121 = .ok (.if_icmp .ge 5, 3) := by decide +kernel
theorem dX8_readsPart_124 : decode cX8_readsPart 124 = .ok (.iconst 0, 1) := by decide +kernel
theorem dX8_readsPart_125 : decode cX8_readsPart 125 = .ok (.ireturn, 1) := by decide +kernel
theorem dX8_readsPart_126 : decode cX8_readsPart 126 = .ok (.aload_n 0, 1) := by decide +kernel
theorem dX8_readsPart_127 : decode cX8_readsPart 127 = .ok (.getfield 25, 3) := by decide +kernel
theorem dX8_readsPart_130 : decode cX8_readsPart 130 = .ok (.iconst 4, 1) := by decide +kernel
theorem dX8_readsPart_131 : decode cX8_readsPart 131 = .ok (.aload_n 0, 1) := by decide +kernel
theorem dX8_readsPart_132 : decode cX8_readsPart 132 = .ok (.getfield 85, 3) := by decide +kernel
theorem dX8_readsPart_135 : decode cX8_readsPart 135 = .ok (.imul, 1) := by decide +kernel
theorem dX8_readsPart_136 : decode cX8_readsPart 136 = .ok (.iload_n 3, 1) := by decide +kernel
theorem dX8_readsPart_137 : decode cX8_readsPart 137 = .ok (.iconst 2, 1) := by decide +kernel
theorem dX8_readsPart_138 : decode cX8_readsPart 138 = .ok (.if_icmp .ge 7, 3) := by decide +kernel
theorem dX8_readsPart_141 : decode cX8_readsPart 141 = .ok (.iconst 0, 1) := by decide +kernel
theorem dX8_readsPart_142 : decode cX8_readsPart 142 = .ok (.goto 15, 3) := by decide +kernel
theorem dX8_readsPart_145 : decode cX8_readsPart 145 = .ok (.iload_n 3, 1) := by decide +kernel
theorem dX8_readsPart_146 : decode cX8_readsPart 146 = .ok (.iconst 4, 1) := by decide +kernel
theorem dX8_readsPart_147 : decode cX8_readsPart 147 = .ok (.if_icmp .ge 7, 3) := by decide +kernel
theorem dX8_readsPart_150 : decode cX8_readsPart 150 = .ok (.iconst 1, 1) := by decide +kernel
theorem dX8_readsPart_151 : decode cX8_readsPart 151 = .ok (.goto 6, 3) := by decide +kernel
theorem dX8_readsPart_154 : decode cX8_readsPart 154 = .ok (.iload_n 3, 1) := by decide +kernel
theorem dX8_readsPart_155 : decode cX8_readsPart 155 = .ok (.iconst 2, 1) := by decide +kernel
theorem dX8_readsPart_156 : decode cX8_readsPart 156 = .ok (.isub, 1) := by decide +kernel
theorem dX8_readsPart_157 : decode cX8_readsPart 157 = .ok (.iadd, 1) := by decide +kernel
theorem dX8_readsPart_158 : decode cX8_readsPart 158 = .ok (.iload_n 3, 1) := by decide +kernel
theorem dX8_readsPart_159 : decode cX8_readsPart 159 = .ok (.iconst 2, 1) := by decide +kernel
theorem dX8_readsPart_160 : decode cX8_readsPart 160 = .ok (.if_icmp .ge 7, 3) := by decide +kernel
theorem dX8_readsPart_163 : decode cX8_readsPart 163 = .ok (.iload_n 1, 1) := by decide +kernel
theorem dX8_readsPart_164 : decode cX8_readsPart 164 = .ok (.goto 14, 3) := by decide +kernel
theorem dX8_readsPart_167 : decode cX8_readsPart 167 = .ok (.iload_n 3, 1) := by decide +kernel
theorem dX8_readsPart_168 : decode cX8_readsPart 168 = .ok (.iconst 4, 1) := by decide +kernel
theorem dX8_readsPart_169 : decode cX8_readsPart 169 = .ok (.if_icmp .ge 7, 3) := by decide +kernel
theorem dX8_readsPart_172 : decode cX8_readsPart 172 = .ok (.iload_n 2, 1) := by decide +kernel
theorem dX8_readsPart_173 : decode cX8_readsPart 173 = .ok (.goto 5, 3) := by decide +kernel
theorem dX8_readsPart_176 : decode cX8_readsPart 176 = .ok (.iload 4, 2) := by decide +kernel
theorem dX8_readsPart_178 : decode cX8_readsPart 178 = .ok (.iastore, 1) := by decide +kernel
theorem dX8_readsPart_179 : decode cX8_readsPart 179 = .ok (.aload_n 0, 1) := by decide +kernel
theorem dX8_readsPart_180 : decode cX8_readsPart 180 = .ok (.dup, 1) := by decide +kernel
theorem dX8_readsPart_181 : decode cX8_readsPart 181 = .ok (.getfield 82, 3) := by decide +kernel
theorem dX8_readsPart_184 : decode cX8_readsPart 184 = .ok (.iconst 1, 1) := by decide +kernel
theorem dX8_readsPart_185 : decode cX8_readsPart 185 = .ok (.iadd, 1) := by decide +kernel
theorem dX8_readsPart_186 : decode cX8_readsPart 186 = .ok (.putfield 82, 3) := by decide +kernel
theorem dX8_readsPart_189 : decode cX8_readsPart 189 = .ok (.iinc 3 1, 3) := by decide +kernel
theorem dX8_readsPart_192 : decode cX8_readsPart 192 = .ok (.goto (-176), 3) := by decide +kernel
theorem dX8_readsPart_195 : decode cX8_readsPart 195 = .ok (.aload_n 0, 1) := by decide +kernel
theorem dX8_readsPart_196 : decode cX8_readsPart 196 = .ok (.dup, 1) := by decide +kernel
theorem dX8_readsPart_197 : decode cX8_readsPart 197 = .ok (.getfield 85, 3) := by decide +kernel
theorem dX8_readsPart_200 : decode cX8_readsPart 200 = .ok (.iconst 1, 1) := by decide +kernel
theorem dX8_readsPart_201 : decode cX8_readsPart 201 = .ok (.iadd, 1) := by decide +kernel
theorem dX8_readsPart_202 : decode cX8_readsPart 202 = .ok (.putfield 85, 3) := by decide +kernel
theorem dX8_readsPart_205 : decode cX8_readsPart 205 = .ok (.iconst 1, 1) := by decide +kernel
theorem dX8_readsPart_206 : decode cX8_readsPart 206 = .ok (.ireturn, 1) := by decide +kernel
theorem dX8_reads_0 : decode cX8_reads 0 = .ok (.aload_n 0, 1) := by decide +kernel
theorem dX8_reads_1 : decode cX8_reads 1 = .ok (.iconst 0, 1) := by decide +kernel
theorem dX8_reads_2 : decode cX8_reads 2 = .ok (.putfield 82, 3) := by decide +kernel
theorem dX8_reads_5 : decode cX8_reads 5 = .ok (.aload_n 0, 1) := by decide +kernel
theorem dX8_reads_6 : decode cX8_reads 6 = .ok (.iconst 0, 1) := by decide +kernel
theorem dX8_reads_7 : decode cX8_reads 7 = .ok (.putfield 85, 3) := by decide +kernel
theorem dX8_reads_10 : decode cX8_reads 10 = .ok (.aload_n 0, 1) := by decide +kernel
theorem dX8_reads_11 : decode cX8_reads 11 = .ok (.getfield 79, 3) := by decide +kernel
theorem dX8_reads_14 : decode cX8_reads 14 = .ok (.ifCond .le 7, 3) := by decide +kernel
theorem dX8_reads_17 : decode cX8_reads 17 = .ok (.iconst 1, 1) := by decide +kernel
theorem dX8_reads_18 : decode cX8_reads 18 = .ok (.goto 4, 3) := by decide +kernel
theorem dX8_reads_21 : decode cX8_reads 21 = .ok (.iconst 0, 1) := by decide +kernel
theorem dX8_reads_22 : decode cX8_reads 22 = .ok (.istore_n 1, 1) := by decide +kernel
theorem dX8_reads_23 : decode cX8_reads 23 = .ok (.iload_n 1, 1) := by decide +kernel
theorem dX8_reads_24 : decode cX8_reads 24 = .ok (.ifCond .eq 71, 3) := by decide +kernel
theorem dX8_reads_27 : decode cX8_reads 27 = .ok (.aload_n 0, 1) := by decide +kernel
theorem dX8_reads_28 : decode cX8_reads 28 = .ok (.invokevirtual 94, 3) := by decide +kernel
theorem dX8_reads_31 : decode cX8_reads 31 = .ok (.ifCond .ne 8, 3) := by decide +kernel
theorem dX8_reads_34 : decode cX8_reads 34 = .ok (.aload_n 0, 1) := by decide +kernel
theorem dX8_reads_35 : decode cX8_reads 35 = .ok (.invokevirtual 98, 3) := by decide +kernel
theorem dX8_reads_38 : decode cX8_reads 38 = .ok (.ireturn, 1) := by decide +kernel
theorem dX8_reads_39 : decode cX8_reads 39 = .ok (.aload_n 0, 1) := by decide +kernel
theorem dX8_reads_40 : decode cX8_reads 40 = .ok (.getfield 82, 3) := by decide +kernel
theorem dX8_reads_43 : decode cX8_reads 43 = .ok (.aload_n 0, 1) := by decide +kernel
theorem dX8_reads_44 : decode cX8_reads 44 = .ok (.getfield 79, 3) := by decide +kernel
theorem dX8_reads_47 : decode cX8_reads 47 = .ok (.if_icmp .ge 7, 3) := by decide +kernel
theorem dX8_reads_50 : decode cX8_reads 50 = .ok (.iconst 1, 1) := by decide +kernel
theorem dX8_reads_51 : decode cX8_reads 51 = .ok (.goto 4, 3) := by decide +kernel
theorem dX8_reads_54 : decode cX8_reads 54 = .ok (.iconst 0, 1) := by decide +kernel
theorem dX8_reads_55 : decode cX8_reads 55 = .ok (.istore_n 1, 1) := by decide +kernel
theorem dX8_reads_56 : decode cX8_reads 56 = .ok (.iload_n 1, 1) := by decide +kernel
theorem dX8_reads_57 : decode cX8_reads 57 = .ok (.ifCond .eq 17, 3) := by decide +kernel
theorem dX8_reads_60 : decode cX8_reads 60 = .ok (.aload_n 0, 1) := by decide +kernel
theorem dX8_reads_61 : decode cX8_reads 61 = .ok (.invokevirtual 88, 3) := by decide +kernel
theorem dX8_reads_64 : decode cX8_reads 64 = .ok (.bipush 59, 2) := by decide +kernel
theorem dX8_reads_66 : decode cX8_reads 66 = .ok (.if_icmp .eq 8, 3) := by decide +kernel
theorem dX8_reads_69 : decode cX8_reads 69 = .ok (.aload_n 0, 1) := by decide +kernel
theorem dX8_reads_70 : decode cX8_reads 70 = .ok (.invokevirtual 98, 3) := by decide +kernel
theorem dX8_reads_73 : decode cX8_reads 73 = .ok (.ireturn, 1) := by decide +kernel
theorem dX8_reads_74 : decode cX8_reads 74 = .ok (.aload_n 0, 1) := by decide +kernel
theorem dX8_reads_75 : decode cX8_reads 75 = .ok (.dup, 1) := by decide +kernel
theorem dX8_reads_76 : decode cX8_reads 76 = .ok (.getfield 82, 3) := by decide +kernel
theorem dX8_reads_79 : decode cX8_reads 79 = .ok (.iload_n 1, 1) := by decide +kernel
theorem dX8_reads_80 : decode cX8_reads 80 = .ok (.ifCond .eq 7, 3) := by decide +kernel
theorem dX8_reads_83 : decode cX8_reads 83 = .ok (.iconst 1, 1) := by decide +kernel
theorem dX8_reads_84 : decode cX8_reads 84 = .ok (.goto 4, 3) := by decide +kernel
theorem dX8_reads_87 : decode cX8_reads 87 = .ok (.iconst 0, 1) := by decide +kernel
theorem dX8_reads_88 : decode cX8_reads 88 = .ok (.iadd, 1) := by decide +kernel
theorem dX8_reads_89 : decode cX8_reads 89 = .ok (.putfield 82, 3) := by decide +kernel
theorem dX8_reads_92 : decode cX8_reads 92 = .ok (.goto (-69), 3) := by decide +kernel
theorem dX8_reads_95 : decode cX8_reads 95 = .ok (.iconst (-1), 1) := by decide +kernel
theorem dX8_reads_96 : decode cX8_reads 96 = .ok (.ireturn, 1) := by decide +kernel
theorem dX8_fault_0 : decode cX8_fault 0 = .ok (.aload_n 0, 1) := by decide +kernel
theorem dX8_fault_1 : decode cX8_fault 1 = .ok (.invokevirtual 101, 3) := by decide +kernel
theorem dX8_fault_4 : decode cX8_fault 4 = .ok (.ireturn, 1) := by decide +kernel
theorem dX8_runner_0 : decode cX8_runner 0 = .ok (.aload_n 0, 1) := by decide +kernel
theorem dX8_runner_1 : decode cX8_runner 1 = .ok (.invokevirtual 101, 3) := by decide +kernel
theorem dX8_runner_4 : decode cX8_runner 4 = .ok (.pop, 1) := by decide +kernel
theorem dX8_runner_5 : decode cX8_runner 5 = .ok (.iload_n 1, 1) := by decide +kernel
theorem dX8_runner_6 : decode cX8_runner 6 = .ok (.i2l, 1) := by decide +kernel
theorem dX8_runner_7 : decode cX8_runner 7 = .ok (.lconst 0, 1) := by decide +kernel
theorem dX8_runner_8 : decode cX8_runner 8 = .ok (.aload_n 0, 1) := by decide +kernel
theorem dX8_runner_9 : decode cX8_runner 9 = .ok (.getfield 85, 3) := by decide +kernel
theorem dX8_runner_12 : decode cX8_runner 12 = .ok (.iconst 1, 1) := by decide +kernel
theorem dX8_runner_13 : decode cX8_runner 13 = .ok (.isub, 1) := by decide +kernel
theorem dX8_runner_14 : decode cX8_runner 14 = .ok (.i2l, 1) := by decide +kernel
theorem dX8_runner_15 : decode cX8_runner 15 = .ok (.invokestatic 48, 3) := by decide +kernel
theorem dX8_runner_18 : decode cX8_runner 18 = .ok (.ifCond .eq 28, 3) := by decide +kernel
theorem dX8_runner_21 : decode cX8_runner 21 = .ok (.iload_n 2, 1) := by decide +kernel
theorem dX8_runner_22 : decode cX8_runner 22 = .ok (.i2l, 1) := by decide +kernel
theorem dX8_runner_23 : decode cX8_runner 23 = .ok (.lconst 0, 1) := by decide +kernel
theorem dX8_runner_24 : decode cX8_runner 24 = .ok (.ldc2_w 56, 3) := by decide +kernel
theorem dX8_runner_27 : decode cX8_runner 27 = .ok (.invokestatic 48, 3) := by decide +kernel
theorem dX8_runner_30 : decode cX8_runner 30 = .ok (.ifCond .eq 16, 3) := by decide +kernel
theorem dX8_runner_33 : decode cX8_runner 33 = .ok (.aload_n 0, 1) := by decide +kernel
theorem dX8_runner_34 : decode cX8_runner 34 = .ok (.getfield 25, 3) := by decide +kernel
theorem dX8_runner_37 : decode cX8_runner 37 = .ok (.iconst 4, 1) := by decide +kernel
theorem dX8_runner_38 : decode cX8_runner 38 = .ok (.iload_n 1, 1) := by decide +kernel
theorem dX8_runner_39 : decode cX8_runner 39 = .ok (.imul, 1) := by decide +kernel
theorem dX8_runner_40 : decode cX8_runner 40 = .ok (.iload_n 2, 1) := by decide +kernel
theorem dX8_runner_41 : decode cX8_runner 41 = .ok (.iadd, 1) := by decide +kernel
theorem dX8_runner_42 : decode cX8_runner 42 = .ok (.iaload, 1) := by decide +kernel
theorem dX8_runner_43 : decode cX8_runner 43 = .ok (.goto 5, 3) := by decide +kernel
theorem dX8_runner_46 : decode cX8_runner 46 = .ok (.bipush (-2), 2) := by decide +kernel
theorem dX8_runner_48 : decode cX8_runner 48 = .ok (.ireturn, 1) := by decide +kernel
theorem dX8_isStretch_0 : decode cX8_isStretch 0 = .ok (.iload_n 0, 1) := by decide +kernel
theorem dX8_isStretch_1 : decode cX8_isStretch 1 = .ok (.i2l, 1) := by decide +kernel
theorem dX8_isStretch_2 : decode cX8_isStretch 2 = .ok (.lconst 0, 1) := by decide +kernel
theorem dX8_isStretch_3 : decode cX8_isStretch 3 = .ok (.ldc2_w 56, 3) := by decide +kernel
theorem dX8_isStretch_6 : decode cX8_isStretch 6 = .ok (.invokestatic 48, 3) := by decide +kernel
theorem dX8_isStretch_9 : decode cX8_isStretch 9 = .ok (.ireturn, 1) := by decide +kernel
theorem dX8_isChange_0 : decode cX8_isChange 0 = .ok (.iload_n 0, 1) := by decide +kernel
theorem dX8_isChange_1 : decode cX8_isChange 1 = .ok (.i2l, 1) := by decide +kernel
theorem dX8_isChange_2 : decode cX8_isChange 2 = .ok (.lconst 0, 1) := by decide +kernel
theorem dX8_isChange_3 : decode cX8_isChange 3 = .ok (.ldc2_w 62, 3) := by decide +kernel
theorem dX8_isChange_6 : decode cX8_isChange 6 = .ok (.invokestatic 48, 3) := by decide +kernel
theorem dX8_isChange_9 : decode cX8_isChange 9 = .ok (.ireturn, 1) := by decide +kernel
theorem dX8_runs_0 : decode cX8_runs 0 = .ok (.iload_n 1, 1) := by decide +kernel
theorem dX8_runs_1 : decode cX8_runs 1 = .ok (.invokestatic 104, 3) := by decide +kernel
theorem dX8_runs_4 : decode cX8_runs 4 = .ok (.ifCond .eq 15, 3) := by decide +kernel
theorem dX8_runs_7 : decode cX8_runs 7 = .ok (.iload_n 2, 1) := by decide +kernel
theorem dX8_runs_8 : decode cX8_runs 8 = .ok (.i2l, 1) := by decide +kernel
theorem dX8_runs_9 : decode cX8_runs 9 = .ok (.lconst 0, 1) := by decide +kernel
theorem dX8_runs_10 : decode cX8_runs 10 = .ok (.ldc2_w 107, 3) := by decide +kernel
theorem dX8_runs_13 : decode cX8_runs 13 = .ok (.invokestatic 48, 3) := by decide +kernel
theorem dX8_runs_16 : decode cX8_runs 16 = .ok (.ifCond .ne 6, 3) := by decide +kernel
theorem dX8_runs_19 : decode cX8_runs 19 = .ok (.bipush (-2), 2) := by decide +kernel
theorem dX8_runs_21 : decode cX8_runs 21 = .ok (.ireturn, 1) := by decide +kernel
theorem dX8_runs_22 : decode cX8_runs 22 = .ok (.aload_n 0, 1) := by decide +kernel
theorem dX8_runs_23 : decode cX8_runs 23 = .ok (.getfield 28, 3) := by decide +kernel
theorem dX8_runs_26 : decode cX8_runs 26 = .ok (.iload_n 1, 1) := by decide +kernel
theorem dX8_runs_27 : decode cX8_runs 27 = .ok (.iaload, 1) := by decide +kernel
theorem dX8_runs_28 : decode cX8_runs 28 = .ok (.istore_n 3, 1) := by decide +kernel
theorem dX8_runs_29 : decode cX8_runs 29 = .ok (.aload_n 0, 1) := by decide +kernel
theorem dX8_runs_30 : decode cX8_runs 30 = .ok (.getfield 28, 3) := by decide +kernel
theorem dX8_runs_33 : decode cX8_runs 33 = .ok (.iload_n 1, 1) := by decide +kernel
theorem dX8_runs_34 : decode cX8_runs 34 = .ok (.iload_n 2, 1) := by decide +kernel
theorem dX8_runs_35 : decode cX8_runs 35 = .ok (.iastore, 1) := by decide +kernel
theorem dX8_runs_36 : decode cX8_runs 36 = .ok (.iload_n 3, 1) := by decide +kernel
theorem dX8_runs_37 : decode cX8_runs 37 = .ok (.ireturn, 1) := by decide +kernel
theorem dX8_most_0 : decode cX8_most 0 = .ok (.iload_n 0, 1) := by decide +kernel
theorem dX8_most_1 : decode cX8_most 1 = .ok (.ifCond .eq 9, 3) := by decide +kernel
theorem dX8_most_4 : decode cX8_most 4 = .ok (.iload_n 0, 1) := by decide +kernel
theorem dX8_most_5 : decode cX8_most 5 = .ok (.bipush 6, 2) := by decide +kernel
theorem dX8_most_7 : decode cX8_most 7 = .ok (.if_icmp .ne 8, 3) := by decide +kernel
theorem dX8_most_10 : decode cX8_most 10 = .ok (.bipush 30, 2) := by decide +kernel
theorem dX8_most_12 : decode cX8_most 12 = .ok (.goto 29, 3) := by decide +kernel
theorem dX8_most_15 : decode cX8_most 15 = .ok (.iload_n 0, 1) := by decide +kernel
theorem dX8_most_16 : decode cX8_most 16 = .ok (.iconst 1, 1) := by decide +kernel
theorem dX8_most_17 : decode cX8_most 17 = .ok (.if_icmp .ne 7, 3) := by decide +kernel
theorem dX8_most_20 : decode cX8_most 20 = .ok (.iconst 5, 1) := by decide +kernel
theorem dX8_most_21 : decode cX8_most 21 = .ok (.goto 20, 3) := by decide +kernel
theorem dX8_most_24 : decode cX8_most 24 = .ok (.iload_n 0, 1) := by decide +kernel
theorem dX8_most_25 : decode cX8_most 25 = .ok (.iconst 3, 1) := by decide +kernel
theorem dX8_most_26 : decode cX8_most 26 = .ok (.if_icmp .eq 8, 3) := by decide +kernel
theorem dX8_most_29 : decode cX8_most 29 = .ok (.iload_n 0, 1) := by decide +kernel
theorem dX8_most_30 : decode cX8_most 30 = .ok (.iconst 4, 1) := by decide +kernel
theorem dX8_most_31 : decode cX8_most 31 = .ok (.if_icmp .ne 8, 3) := by decide +kernel
theorem dX8_most_34 : decode cX8_most 34 = .ok (.bipush 9, 2) := by decide +kernel
theorem dX8_most_36 : decode cX8_most 36 = .ok (.goto 5, 3) := by decide +kernel
theorem dX8_most_39 : decode cX8_most 39 = .ok (.bipush 99, 2) := by decide +kernel
theorem dX8_most_41 : decode cX8_most 41 = .ok (.ireturn, 1) := by decide +kernel
theorem dX8_set_0 : decode cX8_set 0 = .ok (.iload_n 1, 1) := by decide +kernel
theorem dX8_set_1 : decode cX8_set 1 = .ok (.i2l, 1) := by decide +kernel
theorem dX8_set_2 : decode cX8_set 2 = .ok (.lconst 0, 1) := by decide +kernel
theorem dX8_set_3 : decode cX8_set 3 = .ok (.ldc2_w 109, 3) := by decide +kernel
theorem dX8_set_6 : decode cX8_set 6 = .ok (.invokestatic 48, 3) := by decide +kernel
theorem dX8_set_9 : decode cX8_set 9 = .ok (.ifCond .eq 27, 3) := by decide +kernel
theorem dX8_set_12 : decode cX8_set 12 = .ok (.iload_n 2, 1) := by decide +kernel
theorem dX8_set_13 : decode cX8_set 13 = .ok (.i2l, 1) := by decide +kernel
theorem dX8_set_14 : decode cX8_set 14 = .ok (.iload_n 1, 1) := by decide +kernel
theorem dX8_set_15 : decode cX8_set 15 = .ok (.ifCond .ne 9, 3) := by decide +kernel
theorem dX8_set_18 : decode cX8_set 18 = .ok (.ldc2_w 111, 3) := by decide +kernel
theorem dX8_set_21 : decode cX8_set 21 = .ok (.goto 4, 3) := by decide +kernel
theorem dX8_set_24 : decode cX8_set 24 = .ok (.lconst 0, 1) := by decide +kernel
theorem dX8_set_25 : decode cX8_set 25 = .ok (.iload_n 1, 1) := by decide +kernel
theorem dX8_set_26 : decode cX8_set 26 = .ok (.invokestatic 113, 3) := by decide +kernel
theorem dX8_set_29 : decode cX8_set 29 = .ok (.i2l, 1) := by decide +kernel
theorem dX8_set_30 : decode cX8_set 30 = .ok (.invokestatic 48, 3) := by decide +kernel
theorem dX8_set_33 : decode cX8_set 33 = .ok (.ifCond .ne 6, 3) := by decide +kernel
theorem dX8_set_36 : decode cX8_set 36 = .ok (.bipush (-2), 2) := by decide +kernel
theorem dX8_set_38 : decode cX8_set 38 = .ok (.ireturn, 1) := by decide +kernel
theorem dX8_set_39 : decode cX8_set 39 = .ok (.aload_n 0, 1) := by decide +kernel
theorem dX8_set_40 : decode cX8_set 40 = .ok (.getfield 31, 3) := by decide +kernel
theorem dX8_set_43 : decode cX8_set 43 = .ok (.iload_n 1, 1) := by decide +kernel
theorem dX8_set_44 : decode cX8_set 44 = .ok (.iaload, 1) := by decide +kernel
theorem dX8_set_45 : decode cX8_set 45 = .ok (.istore_n 3, 1) := by decide +kernel
theorem dX8_set_46 : decode cX8_set 46 = .ok (.aload_n 0, 1) := by decide +kernel
theorem dX8_set_47 : decode cX8_set 47 = .ok (.getfield 31, 3) := by decide +kernel
theorem dX8_set_50 : decode cX8_set 50 = .ok (.iload_n 1, 1) := by decide +kernel
theorem dX8_set_51 : decode cX8_set 51 = .ok (.iload_n 2, 1) := by decide +kernel
theorem dX8_set_52 : decode cX8_set 52 = .ok (.iastore, 1) := by decide +kernel
theorem dX8_set_53 : decode cX8_set 53 = .ok (.iload_n 3, 1) := by decide +kernel
theorem dX8_set_54 : decode cX8_set 54 = .ok (.ireturn, 1) := by decide +kernel
theorem dX8_mark_0 : decode cX8_mark 0 = .ok (.iload_n 1, 1) := by decide +kernel
theorem dX8_mark_1 : decode cX8_mark 1 = .ok (.invokestatic 116, 3) := by decide +kernel
theorem dX8_mark_4 : decode cX8_mark 4 = .ok (.ifCond .eq 15, 3) := by decide +kernel
theorem dX8_mark_7 : decode cX8_mark 7 = .ok (.iload_n 2, 1) := by decide +kernel
theorem dX8_mark_8 : decode cX8_mark 8 = .ok (.i2l, 1) := by decide +kernel
theorem dX8_mark_9 : decode cX8_mark 9 = .ok (.lconst 0, 1) := by decide +kernel
theorem dX8_mark_10 : decode cX8_mark 10 = .ok (.ldc2_w 119, 3) := by decide +kernel
theorem dX8_mark_13 : decode cX8_mark 13 = .ok (.invokestatic 48, 3) := by decide +kernel
theorem dX8_mark_16 : decode cX8_mark 16 = .ok (.ifCond .ne 6, 3) := by decide +kernel
theorem dX8_mark_19 : decode cX8_mark 19 = .ok (.bipush (-2), 2) := by decide +kernel
theorem dX8_mark_21 : decode cX8_mark 21 = .ok (.ireturn, 1) := by decide +kernel
theorem dX8_mark_22 : decode cX8_mark 22 = .ok (.aload_n 0, 1) := by decide +kernel
theorem dX8_mark_23 : decode cX8_mark 23 = .ok (.getfield 34, 3) := by decide +kernel
theorem dX8_mark_26 : decode cX8_mark 26 = .ok (.iload_n 1, 1) := by decide +kernel
theorem dX8_mark_27 : decode cX8_mark 27 = .ok (.iaload, 1) := by decide +kernel
theorem dX8_mark_28 : decode cX8_mark 28 = .ok (.istore_n 3, 1) := by decide +kernel
theorem dX8_mark_29 : decode cX8_mark 29 = .ok (.aload_n 0, 1) := by decide +kernel
theorem dX8_mark_30 : decode cX8_mark 30 = .ok (.getfield 34, 3) := by decide +kernel
theorem dX8_mark_33 : decode cX8_mark 33 = .ok (.iload_n 1, 1) := by decide +kernel
theorem dX8_mark_34 : decode cX8_mark 34 = .ok (.iload_n 2, 1) := by decide +kernel
theorem dX8_mark_35 : decode cX8_mark 35 = .ok (.iastore, 1) := by decide +kernel
theorem dX8_mark_36 : decode cX8_mark 36 = .ok (.iload_n 3, 1) := by decide +kernel
theorem dX8_mark_37 : decode cX8_mark 37 = .ok (.ireturn, 1) := by decide +kernel
theorem dX8_slip_0 : decode cX8_slip 0 = .ok (.iload_n 1, 1) := by decide +kernel
theorem dX8_slip_1 : decode cX8_slip 1 = .ok (.invokestatic 116, 3) := by decide +kernel
theorem dX8_slip_4 : decode cX8_slip 4 = .ok (.ifCond .eq 17, 3) := by decide +kernel
theorem dX8_slip_7 : decode cX8_slip 7 = .ok (.iload_n 2, 1) := by decide +kernel
theorem dX8_slip_8 : decode cX8_slip 8 = .ok (.i2l, 1) := by decide +kernel
theorem dX8_slip_9 : decode cX8_slip 9 = .ok (.ldc2_w 121, 3) := by decide +kernel
theorem dX8_slip_12 : decode cX8_slip 12 = .ok (.ldc2_w 123, 3) := by decide +kernel
theorem dX8_slip_15 : decode cX8_slip 15 = .ok (.invokestatic 48, 3) := by decide +kernel
theorem dX8_slip_18 : decode cX8_slip 18 = .ok (.ifCond .ne 7, 3) := by decide +kernel
theorem dX8_slip_21 : decode cX8_slip 21 = .ok (.sipush (-1002), 3) := by decide +kernel
theorem dX8_slip_24 : decode cX8_slip 24 = .ok (.ireturn, 1) := by decide +kernel
theorem dX8_slip_25 : decode cX8_slip 25 = .ok (.aload_n 0, 1) := by decide +kernel
theorem dX8_slip_26 : decode cX8_slip 26 = .ok (.getfield 37, 3) := by decide +kernel
theorem dX8_slip_29 : decode cX8_slip 29 = .ok (.iload_n 1, 1) := by decide +kernel
theorem dX8_slip_30 : decode cX8_slip 30 = .ok (.iaload, 1) := by decide +kernel
theorem dX8_slip_31 : decode cX8_slip 31 = .ok (.istore_n 3, 1) := by decide +kernel
theorem dX8_slip_32 : decode cX8_slip 32 = .ok (.aload_n 0, 1) := by decide +kernel
theorem dX8_slip_33 : decode cX8_slip 33 = .ok (.getfield 37, 3) := by decide +kernel
theorem dX8_slip_36 : decode cX8_slip 36 = .ok (.iload_n 1, 1) := by decide +kernel
theorem dX8_slip_37 : decode cX8_slip 37 = .ok (.iload_n 2, 1) := by decide +kernel
theorem dX8_slip_38 : decode cX8_slip 38 = .ok (.iastore, 1) := by decide +kernel
theorem dX8_slip_39 : decode cX8_slip 39 = .ok (.iload_n 3, 1) := by decide +kernel
theorem dX8_slip_40 : decode cX8_slip 40 = .ok (.ireturn, 1) := by decide +kernel
theorem dX8_read_0 : decode cX8_read 0 = .ok (.iload_n 1, 1) := by decide +kernel
theorem dX8_read_1 : decode cX8_read 1 = .ok (.invokestatic 58, 3) := by decide +kernel
theorem dX8_read_4 : decode cX8_read 4 = .ok (.ifCond .ne 6, 3) := by decide +kernel
theorem dX8_read_7 : decode cX8_read 7 = .ok (.bipush (-2), 2) := by decide +kernel
theorem dX8_read_9 : decode cX8_read 9 = .ok (.ireturn, 1) := by decide +kernel
theorem dX8_read_10 : decode cX8_read 10 = .ok (.aload_n 0, 1) := by decide +kernel
theorem dX8_read_11 : decode cX8_read 11 = .ok (.getfield 7, 3) := by decide +kernel
theorem dX8_read_14 : decode cX8_read 14 = .ok (.iload_n 1, 1) := by decide +kernel
theorem dX8_read_15 : decode cX8_read 15 = .ok (.iaload, 1) := by decide +kernel
theorem dX8_read_16 : decode cX8_read 16 = .ok (.ifCond .ge 9, 3) := by decide +kernel
theorem dX8_read_19 : decode cX8_read 19 = .ok (.aload_n 0, 1) := by decide +kernel
theorem dX8_read_20 : decode cX8_read 20 = .ok (.iconst 1, 1) := by decide +kernel
theorem dX8_read_21 : decode cX8_read 21 = .ok (.invokevirtual 64, 3) := by decide +kernel
theorem dX8_read_24 : decode cX8_read 24 = .ok (.ireturn, 1) := by decide +kernel
theorem dX8_read_25 : decode cX8_read 25 = .ok (.iconst 0, 1) := by decide +kernel
theorem dX8_read_26 : decode cX8_read 26 = .ok (.istore_n 2, 1) := by decide +kernel
theorem dX8_read_27 : decode cX8_read 27 = .ok (.iload_n 2, 1) := by decide +kernel
theorem dX8_read_28 : decode cX8_read 28 = .ok (.aload_n 0, 1) := by decide +kernel
theorem dX8_read_29 : decode cX8_read 29 = .ok (.getfield 13, 3) := by decide +kernel
theorem dX8_read_32 : decode cX8_read 32 = .ok (.iload_n 1, 1) := by decide +kernel
theorem dX8_read_33 : decode cX8_read 33 = .ok (.iaload, 1) := by decide +kernel
theorem dX8_read_34 : decode cX8_read 34 = .ok (.if_icmp .ge 28, 3) := by decide +kernel
theorem dX8_read_37 : decode cX8_read 37 = .ok (.aload_n 0, 1) := by decide +kernel
theorem dX8_read_38 : decode cX8_read 38 = .ok (.iload_n 2, 1) := by decide +kernel
theorem dX8_read_39 : decode cX8_read 39 = .ok (.aload_n 0, 1) := by decide +kernel
theorem dX8_read_40 : decode cX8_read 40 = .ok (.getfield 16, 3) := by decide +kernel
theorem dX8_read_43 : decode cX8_read 43 = .ok (.bipush 60, 2) := by decide +kernel
theorem dX8_read_45 : decode cX8_read 45 = .ok (.iload_n 1, 1) := by decide +kernel
theorem dX8_read_46 : decode cX8_read 46 = .ok (.imul, 1) := by decide +kernel
theorem dX8_read_47 : decode cX8_read 47 = .ok (.iload_n 2, 1) := by decide +kernel
theorem dX8_read_48 : decode cX8_read 48 = .ok (.iadd, 1) := by decide +kernel
theorem dX8_read_49 : decode cX8_read 49 = .ok (.iaload, 1) := by decide +kernel
theorem dX8_read_50 : decode cX8_read 50 = .ok (.invokevirtual 125, 3) := by decide +kernel
theorem dX8_read_53 : decode cX8_read 53 = .ok (.ifCond .lt 9, 3) := by decide +kernel
theorem dX8_read_56 : decode cX8_read 56 = .ok (.iinc 2 1, 3) := by decide +kernel
theorem dX8_read_59 : decode cX8_read 59 = .ok (.goto (-32), 3) := by decide +kernel
theorem dX8_read_62 : decode cX8_read 62 = .ok (.iload_n 2, 1) := by decide +kernel
theorem dX8_read_63 : decode cX8_read 63 = .ok (.ireturn, 1) := by decide +kernel
theorem dX8_areThere_0 : decode cX8_areThere 0 = .ok (.aload_n 0, 1) := by decide +kernel
theorem dX8_areThere_1 : decode cX8_areThere 1 = .ok (.invokevirtual 101, 3) := by decide +kernel
theorem dX8_areThere_4 : decode cX8_areThere 4 = .ok (.pop, 1) := by decide +kernel
theorem dX8_areThere_5 : decode cX8_areThere 5 = .ok (.iconst 1, 1) := by decide +kernel
theorem dX8_areThere_6 : decode cX8_areThere 6 = .ok (.istore_n 1, 1) := by decide +kernel
theorem dX8_areThere_7 : decode cX8_areThere 7 = .ok (.iconst 0, 1) := by decide +kernel
theorem dX8_areThere_8 : decode cX8_areThere 8 = .ok (.istore_n 2, 1) := by decide +kernel
theorem dX8_areThere_9 : decode cX8_areThere 9 = .ok (.iload_n 2, 1) := by decide +kernel
theorem dX8_areThere_10 : decode cX8_areThere 10 = .ok (.iconst 4, 1) := by decide +kernel
theorem dX8_areThere_11 : decode cX8_areThere 11 = .ok (.if_icmp .ge 32, 3) := by decide +kernel
theorem dX8_areThere_14 : decode cX8_areThere 14 = .ok (.iload_n 1, 1) := by decide +kernel
theorem dX8_areThere_15 : decode cX8_areThere 15 = .ok (.ifCond .eq 20, 3) := by decide +kernel
theorem dX8_areThere_18 : decode cX8_areThere 18 = .ok (.aload_n 0, 1) := by decide +kernel
theorem dX8_areThere_19 : decode cX8_areThere 19 = .ok (.getfield 28, 3) := by decide +kernel
theorem dX8_areThere_22 : decode cX8_areThere 22 = .ok (.iload_n 2, 1) := by decide +kernel
theorem dX8_areThere_23 : decode cX8_areThere 23 = .ok (.iaload, 1) := by decide +kernel
theorem dX8_areThere_24 : decode cX8_areThere 24 = .ok (.aload_n 0, 1) := by decide +kernel
theorem dX8_areThere_25 : decode cX8_areThere 25 = .ok (.getfield 85, 3) := by decide +kernel
theorem dX8_areThere_28 : decode cX8_areThere 28 = .ok (.if_icmp .ge 7, 3) := by decide +kernel
theorem dX8_areThere_31 : decode cX8_areThere 31 = .ok (.iconst 1, 1) := by decide +kernel
theorem dX8_areThere_32 : decode cX8_areThere 32 = .ok (.goto 4, 3) := by decide +kernel
theorem dX8_areThere_35 : decode cX8_areThere 35 = .ok (.iconst 0, 1) := by decide +kernel
theorem dX8_areThere_36 : decode cX8_areThere 36 = .ok (.istore_n 1, 1) := by decide +kernel
theorem dX8_areThere_37 : decode cX8_areThere 37 = .ok (.iinc 2 1, 3) := by decide +kernel
theorem dX8_areThere_40 : decode cX8_areThere 40 = .ok (.goto (-31), 3) := by decide +kernel
theorem dX8_areThere_43 : decode cX8_areThere 43 = .ok (.iload_n 1, 1) := by decide +kernel
theorem dX8_areThere_44 : decode cX8_areThere 44 = .ok (.ireturn, 1) := by decide +kernel
theorem dX8_takesOf_0 : decode cX8_takesOf 0 = .ok (.iload_n 3, 1) := by decide +kernel
theorem dX8_takesOf_1 : decode cX8_takesOf 1 = .ok (.iconst 4, 1) := by decide +kernel
theorem dX8_takesOf_2 : decode cX8_takesOf 2 = .ok (.aload_n 0, 1) := by decide +kernel
theorem dX8_takesOf_3 : decode cX8_takesOf 3 = .ok (.getfield 25, 3) := by decide +kernel
theorem dX8_takesOf_6 : decode cX8_takesOf 6 = .ok (.iconst 4, 1) := by decide +kernel
theorem dX8_takesOf_7 : decode cX8_takesOf 7 = .ok (.iload_n 1, 1) := by decide +kernel
theorem dX8_takesOf_8 : decode cX8_takesOf 8 = .ok (.imul, 1) := by decide +kernel
theorem dX8_takesOf_9 : decode cX8_takesOf 9 = .ok (.iconst 2, 1) := by decide +kernel
theorem dX8_takesOf_10 : decode cX8_takesOf 10 = .ok (.iadd, 1) := by decide +kernel
theorem dX8_takesOf_11 : decode cX8_takesOf 11 = .ok (.iaload, 1) := by decide +kernel
theorem dX8_takesOf_12 : decode cX8_takesOf 12 = .ok (.imul, 1) := by decide +kernel
theorem dX8_takesOf_13 : decode cX8_takesOf 13 = .ok (.invokestatic 128, 3) := by decide +kernel
theorem dX8_takesOf_16 : decode cX8_takesOf 16 = .ok (.istore 4, 2) := by decide +kernel
theorem dX8_takesOf_18 : decode cX8_takesOf 18 = .ok (.aload_n 0, 1) := by decide +kernel
theorem dX8_takesOf_19 : decode cX8_takesOf 19 = .ok (.getfield 31, 3) := by decide +kernel
theorem dX8_takesOf_22 : decode cX8_takesOf 22 = .ok (.iconst 3, 1) := by decide +kernel
theorem dX8_takesOf_23 : decode cX8_takesOf 23 = .ok (.iaload, 1) := by decide +kernel
theorem dX8_takesOf_24 : decode cX8_takesOf 24 = .ok (.iload_n 2, 1) := by decide +kernel
theorem dX8_takesOf_25 : decode cX8_takesOf 25 = .ok (.iconst 2, 1) := by decide +kernel
theorem dX8_takesOf_26 : decode cX8_takesOf 26 = .ok (.irem, 1) := by decide +kernel
theorem dX8_takesOf_27 : decode cX8_takesOf 27 = .ok (.ifCond .ne 12, 3) := by decide +kernel
theorem dX8_takesOf_30 : decode cX8_takesOf 30 = .ok (.aload_n 0, 1) := by decide +kernel
theorem dX8_takesOf_31 : decode cX8_takesOf 31 = .ok (.getfield 31, 3) := by decide +kernel
theorem dX8_takesOf_34 : decode cX8_takesOf 34 = .ok (.iconst 4, 1) := by decide +kernel
theorem dX8_takesOf_35 : decode cX8_takesOf 35 = .ok (.iaload, 1) := by decide +kernel
theorem dX8_takesOf_36 : decode cX8_takesOf 36 = .ok (.goto 4, 3) := by decide +kernel
theorem dX8_takesOf_39 : decode cX8_takesOf 39 = .ok (.iconst 0, 1) := by decide +kernel
theorem dX8_takesOf_40 : decode cX8_takesOf 40 = .ok (.iadd, 1) := by decide +kernel
theorem dX8_takesOf_41 : decode cX8_takesOf 41 = .ok (.istore 5, 2) := by decide +kernel
theorem dX8_takesOf_43 : decode cX8_takesOf 43 = .ok (.iload 4, 2) := by decide +kernel
theorem dX8_takesOf_45 : decode cX8_takesOf 45 = .ok (.aload_n 0, 1) := by decide +kernel
theorem dX8_takesOf_46 : decode cX8_takesOf 46 = .ok (.getfield 25, 3) := by decide +kernel
theorem dX8_takesOf_49 : decode cX8_takesOf 49 = .ok (.iconst 4, 1) := by decide +kernel
theorem dX8_takesOf_50 : decode cX8_takesOf 50 = .ok (.iload_n 1, 1) := by decide +kernel
theorem dX8_takesOf_51 : decode cX8_takesOf 51 = .ok (.imul, 1) := by decide +kernel
theorem dX8_takesOf_52 : decode cX8_takesOf 52 = .ok (.iconst 1, 1) := by decide +kernel
theorem dX8_takesOf_53 : decode cX8_takesOf 53 = .ok (.iadd, 1) := by decide +kernel
theorem dX8_takesOf_54 : decode cX8_takesOf 54 = .ok (.iaload, 1) := by decide +kernel
theorem dX8_takesOf_55 : decode cX8_takesOf 55 = .ok (.imul, 1) := by decide +kernel
theorem dX8_takesOf_56 : decode cX8_takesOf 56 = .ok (.iload_n 3, 1) := by decide +kernel
theorem dX8_takesOf_57 : decode cX8_takesOf 57 = .ok (.iload 4, 2) := by decide +kernel
theorem dX8_takesOf_59 : decode cX8_takesOf 59 = .ok (.isub, 1) := by decide +kernel
theorem dX8_takesOf_60 : decode cX8_takesOf 60 = .ok (.aload_n 0, 1) := by decide +kernel
theorem dX8_takesOf_61 : decode cX8_takesOf 61 = .ok (.getfield 25, 3) := by decide +kernel
theorem dX8_takesOf_64 : decode cX8_takesOf 64 = .ok (.iconst 4, 1) := by decide +kernel
theorem dX8_takesOf_65 : decode cX8_takesOf 65 = .ok (.iload_n 1, 1) := by decide +kernel
theorem dX8_takesOf_66 : decode cX8_takesOf 66 = .ok (.imul, 1) := by decide +kernel
theorem dX8_takesOf_67 : decode cX8_takesOf 67 = .ok (.iaload, 1) := by decide +kernel
theorem dX8_takesOf_68 : decode cX8_takesOf 68 = .ok (.imul, 1) := by decide +kernel
theorem dX8_takesOf_69 : decode cX8_takesOf 69 = .ok (.iadd, 1) := by decide +kernel
theorem dX8_takesOf_70 : decode cX8_takesOf 70 = .ok (.iload_n 3, 1) := by decide +kernel
theorem dX8_takesOf_71 : decode cX8_takesOf 71 = .ok (.iload 5, 2) := by decide +kernel
theorem dX8_takesOf_73 : decode cX8_takesOf 73 = .ok (.imul, 1) := by decide +kernel
theorem dX8_takesOf_74 : decode cX8_takesOf 74 = .ok (.iadd, 1) := by decide +kernel
theorem dX8_takesOf_75 : decode cX8_takesOf 75 = .ok (.ireturn, 1) := by decide +kernel
theorem dX8_takes_0 : decode cX8_takes 0 = .ok (.aload_n 0, 1) := by decide +kernel
theorem dX8_takes_1 : decode cX8_takes 1 = .ok (.invokevirtual 101, 3) := by decide +kernel
theorem dX8_takes_4 : decode cX8_takes 4 = .ok (.pop, 1) := by decide +kernel
theorem dX8_takes_5 : decode cX8_takes 5 = .ok (.iload_n 1, 1) := by decide +kernel
theorem dX8_takes_6 : decode cX8_takes 6 = .ok (.i2l, 1) := by decide +kernel
theorem dX8_takes_7 : decode cX8_takes 7 = .ok (.lconst 0, 1) := by decide +kernel
theorem dX8_takes_8 : decode cX8_takes 8 = .ok (.aload_n 0, 1) := by decide +kernel
theorem dX8_takes_9 : decode cX8_takes 9 = .ok (.getfield 85, 3) := by decide +kernel
theorem dX8_takes_12 : decode cX8_takes 12 = .ok (.iconst 1, 1) := by decide +kernel
theorem dX8_takes_13 : decode cX8_takes 13 = .ok (.isub, 1) := by decide +kernel
theorem dX8_takes_14 : decode cX8_takes 14 = .ok (.i2l, 1) := by decide +kernel
theorem dX8_takes_15 : decode cX8_takes 15 = .ok (.invokestatic 48, 3) := by decide +kernel
theorem dX8_takes_18 : decode cX8_takes 18 = .ok (.ifCond .eq 32, 3) := by decide +kernel
theorem dX8_takes_21 : decode cX8_takes 21 = .ok (.iload_n 2, 1) := by decide +kernel
theorem dX8_takes_22 : decode cX8_takes 22 = .ok (.invokestatic 104, 3) := by decide +kernel
theorem dX8_takes_25 : decode cX8_takes 25 = .ok (.ifCond .eq 25, 3) := by decide +kernel
theorem dX8_takes_28 : decode cX8_takes 28 = .ok (.iload_n 3, 1) := by decide +kernel
theorem dX8_takes_29 : decode cX8_takes 29 = .ok (.i2l, 1) := by decide +kernel
theorem dX8_takes_30 : decode cX8_takes 30 = .ok (.lconst 0, 1) := by decide +kernel
theorem dX8_takes_31 : decode cX8_takes 31 = .ok (.ldc2_w 131, 3) := by decide +kernel
theorem dX8_takes_34 : decode cX8_takes 34 = .ok (.invokestatic 48, 3) := by decide +kernel
theorem dX8_takes_37 : decode cX8_takes 37 = .ok (.ifCond .eq 13, 3) := by decide +kernel
theorem dX8_takes_40 : decode cX8_takes 40 = .ok (.aload_n 0, 1) := by decide +kernel
theorem dX8_takes_41 : decode cX8_takes 41 = .ok (.iload_n 1, 1) := by decide +kernel
theorem dX8_takes_42 : decode cX8_takes 42 = .ok (.iload_n 2, 1) := by decide +kernel
theorem dX8_takes_43 : decode cX8_takes 43 = .ok (.iload_n 3, 1) := by decide +kernel
theorem dX8_takes_44 : decode cX8_takes 44 = .ok (.invokevirtual 133, 3) := by decide +kernel
theorem dX8_takes_47 : decode cX8_takes 47 = .ok (.goto 5, 3) := by decide +kernel
theorem dX8_takes_50 : decode cX8_takes 50 = .ok (.bipush (-2), 2) := by decide +kernel
theorem dX8_takes_52 : decode cX8_takes 52 = .ok (.ireturn, 1) := by decide +kernel
theorem dX8_delay_0 : decode cX8_delay 0 = .ok (.aload_n 0, 1) := by decide +kernel
theorem dX8_delay_1 : decode cX8_delay 1 = .ok (.getfield 31, 3) := by decide +kernel
theorem dX8_delay_4 : decode cX8_delay 4 = .ok (.iconst 2, 1) := by decide +kernel
theorem dX8_delay_5 : decode cX8_delay 5 = .ok (.iaload, 1) := by decide +kernel
theorem dX8_delay_6 : decode cX8_delay 6 = .ok (.iload 4, 2) := by decide +kernel
theorem dX8_delay_8 : decode cX8_delay 8 = .ok (.iadd, 1) := by decide +kernel
theorem dX8_delay_9 : decode cX8_delay 9 = .ok (.istore 5, 2) := by decide +kernel
theorem dX8_delay_11 : decode cX8_delay 11 = .ok (.aload_n 0, 1) := by decide +kernel
theorem dX8_delay_12 : decode cX8_delay 12 = .ok (.iload_n 1, 1) := by decide +kernel
theorem dX8_delay_13 : decode cX8_delay 13 = .ok (.iload_n 2, 1) := by decide +kernel
theorem dX8_delay_14 : decode cX8_delay 14 = .ok (.bipush 100, 2) := by decide +kernel
theorem dX8_delay_16 : decode cX8_delay 16 = .ok (.iload_n 3, 1) := by decide +kernel
theorem dX8_delay_17 : decode cX8_delay 17 = .ok (.isub, 1) := by decide +kernel
theorem dX8_delay_18 : decode cX8_delay 18 = .ok (.invokevirtual 133, 3) := by decide +kernel
theorem dX8_delay_21 : decode cX8_delay 21 = .ok (.iload 5, 2) := by decide +kernel
theorem dX8_delay_23 : decode cX8_delay 23 = .ok (.ifCond .ge 7, 3) := by decide +kernel
theorem dX8_delay_26 : decode cX8_delay 26 = .ok (.iconst 0, 1) := by decide +kernel
theorem dX8_delay_27 : decode cX8_delay 27 = .ok (.goto 5, 3) := by decide +kernel
theorem dX8_delay_30 : decode cX8_delay 30 = .ok (.iload 5, 2) := by decide +kernel
theorem dX8_delay_32 : decode cX8_delay 32 = .ok (.iadd, 1) := by decide +kernel
theorem dX8_delay_33 : decode cX8_delay 33 = .ok (.ireturn, 1) := by decide +kernel
theorem dX8_meetBy_0 : decode cX8_meetBy 0 = .ok (.aload_n 0, 1) := by decide +kernel
theorem dX8_meetBy_1 : decode cX8_meetBy 1 = .ok (.iload_n 1, 1) := by decide +kernel
theorem dX8_meetBy_2 : decode cX8_meetBy 2 = .ok (.iload_n 3, 1) := by decide +kernel
theorem dX8_meetBy_3 : decode cX8_meetBy 3 = .ok (.iload 4, 2) := by decide +kernel
theorem dX8_meetBy_5 : decode cX8_meetBy 5 = .ok (.iload 5, 2) := by decide +kernel
theorem dX8_meetBy_7 : decode cX8_meetBy 7 = .ok (.invokevirtual 136, 3) := by decide +kernel
theorem dX8_meetBy_10 : decode cX8_meetBy 10 = .ok (.istore 6, 2) := by decide +kernel
theorem dX8_meetBy_12 : decode cX8_meetBy 12 = .ok (.iconst 0, 1) := by decide +kernel
theorem dX8_meetBy_13 : decode cX8_meetBy 13 = .ok (.istore 7, 2) := by decide +kernel
theorem dX8_meetBy_15 : decode cX8_meetBy 15 = .ok (.iload 7, 2) := by decide +kernel
theorem dX8_meetBy_17 : decode cX8_meetBy 17 = .ok (.aload_n 0, 1) := by decide +kernel
theorem dX8_meetBy_18 : decode cX8_meetBy 18 = .ok (.getfield 31, 3) := by decide +kernel
theorem dX8_meetBy_21 : decode cX8_meetBy 21 = .ok (.iconst 0, 1) := by decide +kernel
theorem dX8_meetBy_22 : decode cX8_meetBy 22 = .ok (.iaload, 1) := by decide +kernel
theorem dX8_meetBy_23 : decode cX8_meetBy 23 = .ok (.if_icmp .gt 46, 3) := by decide +kernel
theorem dX8_meetBy_26 : decode cX8_meetBy 26 = .ok (.aload_n 0, 1) := by decide +kernel
theorem dX8_meetBy_27 : decode cX8_meetBy 27 = .ok (.iload_n 1, 1) := by decide +kernel
theorem dX8_meetBy_28 : decode cX8_meetBy 28 = .ok (.iload_n 3, 1) := by decide +kernel
theorem dX8_meetBy_29 : decode cX8_meetBy 29 = .ok (.bipush 100, 2) := by decide +kernel
theorem dX8_meetBy_31 : decode cX8_meetBy 31 = .ok (.iload 7, 2) := by decide +kernel
theorem dX8_meetBy_33 : decode cX8_meetBy 33 = .ok (.iadd, 1) := by decide +kernel
theorem dX8_meetBy_34 : decode cX8_meetBy 34 = .ok (.aload_n 0, 1) := by decide +kernel
theorem dX8_meetBy_35 : decode cX8_meetBy 35 = .ok (.getfield 31, 3) := by decide +kernel
theorem dX8_meetBy_38 : decode cX8_meetBy 38 = .ok (.iconst 1, 1) := by decide +kernel
theorem dX8_meetBy_39 : decode cX8_meetBy 39 = .ok (.iaload, 1) := by decide +kernel
theorem dX8_meetBy_40 : decode cX8_meetBy 40 = .ok (.isub, 1) := by decide +kernel
theorem dX8_meetBy_41 : decode cX8_meetBy 41 = .ok (.invokevirtual 133, 3) := by decide +kernel
theorem dX8_meetBy_44 : decode cX8_meetBy 44 = .ok (.iload 6, 2) := by decide +kernel
theorem dX8_meetBy_46 : decode cX8_meetBy 46 = .ok (.aload_n 0, 1) := by decide +kernel
theorem dX8_meetBy_47 : decode cX8_meetBy 47 = .ok (.iload_n 2, 1) := by decide +kernel
theorem dX8_meetBy_48 : decode cX8_meetBy 48 = .ok (.iload_n 3, 1) := by decide +kernel
theorem dX8_meetBy_49 : decode cX8_meetBy 49 = .ok (.iconst 1, 1) := by decide +kernel
theorem dX8_meetBy_50 : decode cX8_meetBy 50 = .ok (.iadd, 1) := by decide +kernel
theorem dX8_meetBy_51 : decode cX8_meetBy 51 = .ok (.iload 7, 2) := by decide +kernel
theorem dX8_meetBy_53 : decode cX8_meetBy 53 = .ok (.invokevirtual 133, 3) := by decide +kernel
theorem dX8_meetBy_56 : decode cX8_meetBy 56 = .ok (.iadd, 1) := by decide +kernel
theorem dX8_meetBy_57 : decode cX8_meetBy 57 = .ok (.if_icmp .gt 6, 3) := by decide +kernel
theorem dX8_meetBy_60 : decode cX8_meetBy 60 = .ok (.iload 7, 2) := by decide +kernel
theorem dX8_meetBy_62 : decode cX8_meetBy 62 = .ok (.ireturn, 1) := by decide +kernel
theorem dX8_meetBy_63 : decode cX8_meetBy 63 = .ok (.iinc 7 1, 3) := by decide +kernel
theorem dX8_meetBy_66 : decode cX8_meetBy 66 = .ok (.goto (-51), 3) := by decide +kernel
theorem dX8_meetBy_69 : decode cX8_meetBy 69 = .ok (.iconst (-1), 1) := by decide +kernel
theorem dX8_meetBy_70 : decode cX8_meetBy 70 = .ok (.ireturn, 1) := by decide +kernel
theorem dX8_meetOf_0 : decode cX8_meetOf 0 = .ok (.aload_n 0, 1) := by decide +kernel
theorem dX8_meetOf_1 : decode cX8_meetOf 1 = .ok (.aload_n 0, 1) := by decide +kernel
theorem dX8_meetOf_2 : decode cX8_meetOf 2 = .ok (.getfield 28, 3) := by decide +kernel
theorem dX8_meetOf_5 : decode cX8_meetOf 5 = .ok (.iload_n 1, 1) := by decide +kernel
theorem dX8_meetOf_6 : decode cX8_meetOf 6 = .ok (.iaload, 1) := by decide +kernel
theorem dX8_meetOf_7 : decode cX8_meetOf 7 = .ok (.aload_n 0, 1) := by decide +kernel
theorem dX8_meetOf_8 : decode cX8_meetOf 8 = .ok (.getfield 28, 3) := by decide +kernel
theorem dX8_meetOf_11 : decode cX8_meetOf 11 = .ok (.iload_n 1, 1) := by decide +kernel
theorem dX8_meetOf_12 : decode cX8_meetOf 12 = .ok (.iconst 1, 1) := by decide +kernel
theorem dX8_meetOf_13 : decode cX8_meetOf 13 = .ok (.iadd, 1) := by decide +kernel
theorem dX8_meetOf_14 : decode cX8_meetOf 14 = .ok (.iaload, 1) := by decide +kernel
theorem dX8_meetOf_15 : decode cX8_meetOf 15 = .ok (.iload_n 1, 1) := by decide +kernel
theorem dX8_meetOf_16 : decode cX8_meetOf 16 = .ok (.iload_n 2, 1) := by decide +kernel
theorem dX8_meetOf_17 : decode cX8_meetOf 17 = .ok (.iload_n 3, 1) := by decide +kernel
theorem dX8_meetOf_18 : decode cX8_meetOf 18 = .ok (.invokevirtual 140, 3) := by decide +kernel
theorem dX8_meetOf_21 : decode cX8_meetOf 21 = .ok (.ireturn, 1) := by decide +kernel
theorem dX8_goesOff_0 : decode cX8_goesOff 0 = .ok (.iconst 0, 1) := by decide +kernel
theorem dX8_goesOff_1 : decode cX8_goesOff 1 = .ok (.istore_n 2, 1) := by decide +kernel
theorem dX8_goesOff_2 : decode cX8_goesOff 2 = .ok (.iconst 0, 1) := by decide +kernel
theorem dX8_goesOff_3 : decode cX8_goesOff 3 = .ok (.istore_n 3, 1) := by decide +kernel
theorem dX8_goesOff_4 : decode cX8_goesOff 4 = .ok (.iload_n 3, 1) := by decide +kernel
theorem dX8_goesOff_5 : decode cX8_goesOff 5 = .ok (.iload_n 1, 1) := by decide +kernel
theorem dX8_goesOff_6 : decode cX8_goesOff 6 = .ok (.if_icmp .ge 35, 3) := by decide +kernel
theorem dX8_goesOff_9 : decode cX8_goesOff 9 = .ok (.iload_n 2, 1) := by decide +kernel
theorem dX8_goesOff_10 : decode cX8_goesOff 10 = .ok (.aload_n 0, 1) := by decide +kernel
theorem dX8_goesOff_11 : decode cX8_goesOff 11 = .ok (.aload_n 0, 1) := by decide +kernel
theorem dX8_goesOff_12 : decode cX8_goesOff 12 = .ok (.getfield 28, 3) := by decide +kernel
theorem dX8_goesOff_15 : decode cX8_goesOff 15 = .ok (.iload_n 3, 1) := by decide +kernel
theorem dX8_goesOff_16 : decode cX8_goesOff 16 = .ok (.iaload, 1) := by decide +kernel
theorem dX8_goesOff_17 : decode cX8_goesOff 17 = .ok (.iload_n 3, 1) := by decide +kernel
theorem dX8_goesOff_18 : decode cX8_goesOff 18 = .ok (.aload_n 0, 1) := by decide +kernel
theorem dX8_goesOff_19 : decode cX8_goesOff 19 = .ok (.getfield 34, 3) := by decide +kernel
theorem dX8_goesOff_22 : decode cX8_goesOff 22 = .ok (.iload_n 3, 1) := by decide +kernel
theorem dX8_goesOff_23 : decode cX8_goesOff 23 = .ok (.iaload, 1) := by decide +kernel
theorem dX8_goesOff_24 : decode cX8_goesOff 24 = .ok (.aload_n 0, 1) := by decide +kernel
theorem dX8_goesOff_25 : decode cX8_goesOff 25 = .ok (.getfield 37, 3) := by decide +kernel
theorem dX8_goesOff_28 : decode cX8_goesOff 28 = .ok (.iload_n 3, 1) := by decide +kernel
theorem dX8_goesOff_29 : decode cX8_goesOff 29 = .ok (.iaload, 1) := by decide +kernel
theorem dX8_goesOff_30 : decode cX8_goesOff 30 = .ok (.invokevirtual 136, 3) := by decide +kernel
theorem dX8_goesOff_33 : decode cX8_goesOff 33 = .ok (.iadd, 1) := by decide +kernel
theorem dX8_goesOff_34 : decode cX8_goesOff 34 = .ok (.istore_n 2, 1) := by decide +kernel
theorem dX8_goesOff_35 : decode cX8_goesOff 35 = .ok (.iinc 3 1, 3) := by decide +kernel
theorem dX8_goesOff_38 : decode cX8_goesOff 38 = .ok (.goto (-34), 3) := by decide +kernel
theorem dX8_goesOff_41 : decode cX8_goesOff 41 = .ok (.iload_n 2, 1) := by decide +kernel
theorem dX8_goesOff_42 : decode cX8_goesOff 42 = .ok (.ireturn, 1) := by decide +kernel
theorem dX8_when_0 : decode cX8_when 0 = .ok (.iload_n 1, 1) := by decide +kernel
theorem dX8_when_1 : decode cX8_when 1 = .ok (.invokestatic 104, 3) := by decide +kernel
theorem dX8_when_4 : decode cX8_when 4 = .ok (.ifCond .eq 10, 3) := by decide +kernel
theorem dX8_when_7 : decode cX8_when 7 = .ok (.iload_n 2, 1) := by decide +kernel
theorem dX8_when_8 : decode cX8_when 8 = .ok (.invokestatic 144, 3) := by decide +kernel
theorem dX8_when_11 : decode cX8_when 11 = .ok (.ifCond .ne 6, 3) := by decide +kernel
theorem dX8_when_14 : decode cX8_when 14 = .ok (.bipush (-2), 2) := by decide +kernel
theorem dX8_when_16 : decode cX8_when 16 = .ok (.ireturn, 1) := by decide +kernel
theorem dX8_when_17 : decode cX8_when 17 = .ok (.aload_n 0, 1) := by decide +kernel
theorem dX8_when_18 : decode cX8_when 18 = .ok (.invokevirtual 147, 3) := by decide +kernel
theorem dX8_when_21 : decode cX8_when 21 = .ok (.ifCond .ne 6, 3) := by decide +kernel
theorem dX8_when_24 : decode cX8_when 24 = .ok (.bipush (-3), 2) := by decide +kernel
theorem dX8_when_26 : decode cX8_when 26 = .ok (.ireturn, 1) := by decide +kernel
theorem dX8_when_27 : decode cX8_when 27 = .ok (.aload_n 0, 1) := by decide +kernel
theorem dX8_when_28 : decode cX8_when 28 = .ok (.iload_n 1, 1) := by decide +kernel
theorem dX8_when_29 : decode cX8_when 29 = .ok (.invokevirtual 150, 3) := by decide +kernel
theorem dX8_when_32 : decode cX8_when 32 = .ok (.iload_n 2, 1) := by decide +kernel
theorem dX8_when_33 : decode cX8_when 33 = .ok (.iconst 1, 1) := by decide +kernel
theorem dX8_when_34 : decode cX8_when 34 = .ok (.if_icmp .ne 19, 3) := by decide +kernel
theorem dX8_when_37 : decode cX8_when 37 = .ok (.aload_n 0, 1) := by decide +kernel
theorem dX8_when_38 : decode cX8_when 38 = .ok (.aload_n 0, 1) := by decide +kernel
theorem dX8_when_39 : decode cX8_when 39 = .ok (.getfield 28, 3) := by decide +kernel
theorem dX8_when_42 : decode cX8_when 42 = .ok (.iload_n 1, 1) := by decide +kernel
theorem dX8_when_43 : decode cX8_when 43 = .ok (.iaload, 1) := by decide +kernel
theorem dX8_when_44 : decode cX8_when 44 = .ok (.iload_n 1, 1) := by decide +kernel
theorem dX8_when_45 : decode cX8_when 45 = .ok (.bipush 100, 2) := by decide +kernel
theorem dX8_when_47 : decode cX8_when 47 = .ok (.invokevirtual 133, 3) := by decide +kernel
theorem dX8_when_50 : decode cX8_when 50 = .ok (.goto 4, 3) := by decide +kernel
theorem dX8_when_53 : decode cX8_when 53 = .ok (.iconst 0, 1) := by decide +kernel
theorem dX8_when_54 : decode cX8_when 54 = .ok (.iadd, 1) := by decide +kernel
theorem dX8_when_55 : decode cX8_when 55 = .ok (.ireturn, 1) := by decide +kernel
theorem dX8_meetNow_0 : decode cX8_meetNow 0 = .ok (.aload_n 0, 1) := by decide +kernel
theorem dX8_meetNow_1 : decode cX8_meetNow 1 = .ok (.invokevirtual 147, 3) := by decide +kernel
theorem dX8_meetNow_4 : decode cX8_meetNow 4 = .ok (.ifCond .eq 23, 3) := by decide +kernel
theorem dX8_meetNow_7 : decode cX8_meetNow 7 = .ok (.aload_n 0, 1) := by decide +kernel
theorem dX8_meetNow_8 : decode cX8_meetNow 8 = .ok (.iload_n 1, 1) := by decide +kernel
theorem dX8_meetNow_9 : decode cX8_meetNow 9 = .ok (.aload_n 0, 1) := by decide +kernel
theorem dX8_meetNow_10 : decode cX8_meetNow 10 = .ok (.getfield 34, 3) := by decide +kernel
theorem dX8_meetNow_13 : decode cX8_meetNow 13 = .ok (.iload_n 1, 1) := by decide +kernel
theorem dX8_meetNow_14 : decode cX8_meetNow 14 = .ok (.iaload, 1) := by decide +kernel
theorem dX8_meetNow_15 : decode cX8_meetNow 15 = .ok (.aload_n 0, 1) := by decide +kernel
theorem dX8_meetNow_16 : decode cX8_meetNow 16 = .ok (.getfield 37, 3) := by decide +kernel
theorem dX8_meetNow_19 : decode cX8_meetNow 19 = .ok (.iload_n 1, 1) := by decide +kernel
theorem dX8_meetNow_20 : decode cX8_meetNow 20 = .ok (.iaload, 1) := by decide +kernel
theorem dX8_meetNow_21 : decode cX8_meetNow 21 = .ok (.invokevirtual 153, 3) := by decide +kernel
theorem dX8_meetNow_24 : decode cX8_meetNow 24 = .ok (.goto 5, 3) := by decide +kernel
theorem dX8_meetNow_27 : decode cX8_meetNow 27 = .ok (.bipush (-3), 2) := by decide +kernel
theorem dX8_meetNow_29 : decode cX8_meetNow 29 = .ok (.ireturn, 1) := by decide +kernel
theorem dX8_meet_0 : decode cX8_meet 0 = .ok (.iload_n 1, 1) := by decide +kernel
theorem dX8_meet_1 : decode cX8_meet 1 = .ok (.invokestatic 116, 3) := by decide +kernel
theorem dX8_meet_4 : decode cX8_meet 4 = .ok (.ifCond .eq 11, 3) := by decide +kernel
theorem dX8_meet_7 : decode cX8_meet 7 = .ok (.aload_n 0, 1) := by decide +kernel
theorem dX8_meet_8 : decode cX8_meet 8 = .ok (.iload_n 1, 1) := by decide +kernel
theorem dX8_meet_9 : decode cX8_meet 9 = .ok (.invokevirtual 156, 3) := by decide +kernel
theorem dX8_meet_12 : decode cX8_meet 12 = .ok (.goto 5, 3) := by decide +kernel
theorem dX8_meet_15 : decode cX8_meet 15 = .ok (.bipush (-2), 2) := by decide +kernel
theorem dX8_meet_17 : decode cX8_meet 17 = .ok (.ireturn, 1) := by decide +kernel
theorem dX8_kindNow_0 : decode cX8_kindNow 0 = .ok (.aload_n 0, 1) := by decide +kernel
theorem dX8_kindNow_1 : decode cX8_kindNow 1 = .ok (.iload_n 1, 1) := by decide +kernel
theorem dX8_kindNow_2 : decode cX8_kindNow 2 = .ok (.invokevirtual 156, 3) := by decide +kernel
theorem dX8_kindNow_5 : decode cX8_kindNow 5 = .ok (.istore_n 2, 1) := by decide +kernel
theorem dX8_kindNow_6 : decode cX8_kindNow 6 = .ok (.iload_n 2, 1) := by decide +kernel
theorem dX8_kindNow_7 : decode cX8_kindNow 7 = .ok (.bipush (-3), 2) := by decide +kernel
theorem dX8_kindNow_9 : decode cX8_kindNow 9 = .ok (.if_icmp .ne 8, 3) := by decide +kernel
theorem dX8_kindNow_12 : decode cX8_kindNow 12 = .ok (.bipush (-3), 2) := by decide +kernel
theorem dX8_kindNow_14 : decode cX8_kindNow 14 = .ok (.goto 37, 3) := by decide +kernel
theorem dX8_kindNow_17 : decode cX8_kindNow 17 = .ok (.iload_n 2, 1) := by decide +kernel
theorem dX8_kindNow_18 : decode cX8_kindNow 18 = .ok (.iconst (-1), 1) := by decide +kernel
theorem dX8_kindNow_19 : decode cX8_kindNow 19 = .ok (.if_icmp .ne 7, 3) := by decide +kernel
theorem dX8_kindNow_22 : decode cX8_kindNow 22 = .ok (.iconst 3, 1) := by decide +kernel
theorem dX8_kindNow_23 : decode cX8_kindNow 23 = .ok (.goto 28, 3) := by decide +kernel
theorem dX8_kindNow_26 : decode cX8_kindNow 26 = .ok (.iload_n 2, 1) := by decide +kernel
theorem dX8_kindNow_27 : decode cX8_kindNow 27 = .ok (.ifCond .ne 7, 3) := by decide +kernel
theorem dX8_kindNow_30 : decode cX8_kindNow 30 = .ok (.iconst 2, 1) := by decide +kernel
theorem dX8_kindNow_31 : decode cX8_kindNow 31 = .ok (.goto 20, 3) := by decide +kernel
theorem dX8_kindNow_34 : decode cX8_kindNow 34 = .ok (.iload_n 2, 1) := by decide +kernel
theorem dX8_kindNow_35 : decode cX8_kindNow 35 = .ok (.aload_n 0, 1) := by decide +kernel
theorem dX8_kindNow_36 : decode cX8_kindNow 36 = .ok (.getfield 31, 3) := by decide +kernel
theorem dX8_kindNow_39 : decode cX8_kindNow 39 = .ok (.iconst 0, 1) := by decide +kernel
theorem dX8_kindNow_40 : decode cX8_kindNow 40 = .ok (.iaload, 1) := by decide +kernel
theorem dX8_kindNow_41 : decode cX8_kindNow 41 = .ok (.iconst 2, 1) := by decide +kernel
theorem dX8_kindNow_42 : decode cX8_kindNow 42 = .ok (.isub, 1) := by decide +kernel
theorem dX8_kindNow_43 : decode cX8_kindNow 43 = .ok (.if_icmp .lt 7, 3) := by decide +kernel
theorem dX8_kindNow_46 : decode cX8_kindNow 46 = .ok (.iconst 1, 1) := by decide +kernel
theorem dX8_kindNow_47 : decode cX8_kindNow 47 = .ok (.goto 4, 3) := by decide +kernel
theorem dX8_kindNow_50 : decode cX8_kindNow 50 = .ok (.iconst 0, 1) := by decide +kernel
theorem dX8_kindNow_51 : decode cX8_kindNow 51 = .ok (.ireturn, 1) := by decide +kernel
theorem dX8_kind_0 : decode cX8_kind 0 = .ok (.iload_n 1, 1) := by decide +kernel
theorem dX8_kind_1 : decode cX8_kind 1 = .ok (.invokestatic 116, 3) := by decide +kernel
theorem dX8_kind_4 : decode cX8_kind 4 = .ok (.ifCond .eq 11, 3) := by decide +kernel
theorem dX8_kind_7 : decode cX8_kind 7 = .ok (.aload_n 0, 1) := by decide +kernel
theorem dX8_kind_8 : decode cX8_kind 8 = .ok (.iload_n 1, 1) := by decide +kernel
theorem dX8_kind_9 : decode cX8_kind 9 = .ok (.invokevirtual 159, 3) := by decide +kernel
theorem dX8_kind_12 : decode cX8_kind 12 = .ok (.goto 5, 3) := by decide +kernel
theorem dX8_kind_15 : decode cX8_kind 15 = .ok (.bipush (-2), 2) := by decide +kernel
theorem dX8_kind_17 : decode cX8_kind 17 = .ok (.ireturn, 1) := by decide +kernel
theorem dX8_timeOf_0 : decode cX8_timeOf 0 = .ok (.aload_n 0, 1) := by decide +kernel
theorem dX8_timeOf_1 : decode cX8_timeOf 1 = .ok (.iconst 3, 1) := by decide +kernel
theorem dX8_timeOf_2 : decode cX8_timeOf 2 = .ok (.invokevirtual 150, 3) := by decide +kernel
theorem dX8_timeOf_5 : decode cX8_timeOf 5 = .ok (.aload_n 0, 1) := by decide +kernel
theorem dX8_timeOf_6 : decode cX8_timeOf 6 = .ok (.aload_n 0, 1) := by decide +kernel
theorem dX8_timeOf_7 : decode cX8_timeOf 7 = .ok (.getfield 28, 3) := by decide +kernel
theorem dX8_timeOf_10 : decode cX8_timeOf 10 = .ok (.iconst 3, 1) := by decide +kernel
theorem dX8_timeOf_11 : decode cX8_timeOf 11 = .ok (.iaload, 1) := by decide +kernel
theorem dX8_timeOf_12 : decode cX8_timeOf 12 = .ok (.iconst 3, 1) := by decide +kernel
theorem dX8_timeOf_13 : decode cX8_timeOf 13 = .ok (.bipush 100, 2) := by decide +kernel
theorem dX8_timeOf_15 : decode cX8_timeOf 15 = .ok (.invokevirtual 133, 3) := by decide +kernel
theorem dX8_timeOf_18 : decode cX8_timeOf 18 = .ok (.iadd, 1) := by decide +kernel
theorem dX8_timeOf_19 : decode cX8_timeOf 19 = .ok (.istore_n 1, 1) := by decide +kernel
theorem dX8_timeOf_20 : decode cX8_timeOf 20 = .ok (.iconst 0, 1) := by decide +kernel
theorem dX8_timeOf_21 : decode cX8_timeOf 21 = .ok (.istore_n 2, 1) := by decide +kernel
theorem dX8_timeOf_22 : decode cX8_timeOf 22 = .ok (.iload_n 2, 1) := by decide +kernel
theorem dX8_timeOf_23 : decode cX8_timeOf 23 = .ok (.iconst 3, 1) := by decide +kernel
theorem dX8_timeOf_24 : decode cX8_timeOf 24 = .ok (.if_icmp .ge 51, 3) := by decide +kernel
theorem dX8_timeOf_27 : decode cX8_timeOf 27 = .ok (.aload_n 0, 1) := by decide +kernel
theorem dX8_timeOf_28 : decode cX8_timeOf 28 = .ok (.iload_n 2, 1) := by decide +kernel
theorem dX8_timeOf_29 : decode cX8_timeOf 29 = .ok (.aload_n 0, 1) := by decide +kernel
theorem dX8_timeOf_30 : decode cX8_timeOf 30 = .ok (.getfield 34, 3) := by decide +kernel
theorem dX8_timeOf_33 : decode cX8_timeOf 33 = .ok (.iload_n 2, 1) := by decide +kernel
theorem dX8_timeOf_34 : decode cX8_timeOf 34 = .ok (.iaload, 1) := by decide +kernel
theorem dX8_timeOf_35 : decode cX8_timeOf 35 = .ok (.aload_n 0, 1) := by decide +kernel
theorem dX8_timeOf_36 : decode cX8_timeOf 36 = .ok (.getfield 37, 3) := by decide +kernel
theorem dX8_timeOf_39 : decode cX8_timeOf 39 = .ok (.iload_n 2, 1) := by decide +kernel
theorem dX8_timeOf_40 : decode cX8_timeOf 40 = .ok (.iaload, 1) := by decide +kernel
theorem dX8_timeOf_41 : decode cX8_timeOf 41 = .ok (.invokevirtual 153, 3) := by decide +kernel
theorem dX8_timeOf_44 : decode cX8_timeOf 44 = .ok (.istore_n 3, 1) := by decide +kernel
theorem dX8_timeOf_45 : decode cX8_timeOf 45 = .ok (.iload_n 3, 1) := by decide +kernel
theorem dX8_timeOf_46 : decode cX8_timeOf 46 = .ok (.iconst (-1), 1) := by decide +kernel
theorem dX8_timeOf_47 : decode cX8_timeOf 47 = .ok (.if_icmp .ne 5, 3) := by decide +kernel
theorem dX8_timeOf_50 : decode cX8_timeOf 50 = .ok (.iconst (-1), 1) := by decide +kernel
theorem dX8_timeOf_51 : decode cX8_timeOf 51 = .ok (.ireturn, 1) := by decide +kernel
theorem dX8_timeOf_52 : decode cX8_timeOf 52 = .ok (.iload_n 1, 1) := by decide +kernel
theorem dX8_timeOf_53 : decode cX8_timeOf 53 = .ok (.iload_n 3, 1) := by decide +kernel
theorem dX8_timeOf_54 : decode cX8_timeOf 54 = .ok (.ifCond .ne 12, 3) := by decide +kernel
theorem dX8_timeOf_57 : decode cX8_timeOf 57 = .ok (.aload_n 0, 1) := by decide +kernel
theorem dX8_timeOf_58 : decode cX8_timeOf 58 = .ok (.getfield 31, 3) := by decide +kernel
theorem dX8_timeOf_61 : decode cX8_timeOf 61 = .ok (.iconst 5, 1) := by decide +kernel
theorem dX8_timeOf_62 : decode cX8_timeOf 62 = .ok (.iaload, 1) := by decide +kernel
theorem dX8_timeOf_63 : decode cX8_timeOf 63 = .ok (.goto 4, 3) := by decide +kernel
theorem dX8_timeOf_66 : decode cX8_timeOf 66 = .ok (.iconst 0, 1) := by decide +kernel
theorem dX8_timeOf_67 : decode cX8_timeOf 67 = .ok (.iadd, 1) := by decide +kernel
theorem dX8_timeOf_68 : decode cX8_timeOf 68 = .ok (.istore_n 1, 1) := by decide +kernel
theorem dX8_timeOf_69 : decode cX8_timeOf 69 = .ok (.iinc 2 1, 3) := by decide +kernel
theorem dX8_timeOf_72 : decode cX8_timeOf 72 = .ok (.goto (-50), 3) := by decide +kernel
theorem dX8_timeOf_75 : decode cX8_timeOf 75 = .ok (.iload_n 1, 1) := by decide +kernel
theorem dX8_timeOf_76 : decode cX8_timeOf 76 = .ok (.ireturn, 1) := by decide +kernel
theorem dX8_time_0 : decode cX8_time 0 = .ok (.aload_n 0, 1) := by decide +kernel
theorem dX8_time_1 : decode cX8_time 1 = .ok (.invokevirtual 147, 3) := by decide +kernel
theorem dX8_time_4 : decode cX8_time 4 = .ok (.ifCond .eq 10, 3) := by decide +kernel
theorem dX8_time_7 : decode cX8_time 7 = .ok (.aload_n 0, 1) := by decide +kernel
theorem dX8_time_8 : decode cX8_time 8 = .ok (.invokevirtual 162, 3) := by decide +kernel
theorem dX8_time_11 : decode cX8_time 11 = .ok (.goto 5, 3) := by decide +kernel
theorem dX8_time_14 : decode cX8_time 14 = .ok (.bipush (-3), 2) := by decide +kernel
theorem dX8_time_16 : decode cX8_time 16 = .ok (.ireturn, 1) := by decide +kernel
theorem dX8_carriesOf_0 : decode cX8_carriesOf 0 = .ok (.iload_n 1, 1) := by decide +kernel
theorem dX8_carriesOf_1 : decode cX8_carriesOf 1 = .ok (.ifCond .ne 7, 3) := by decide +kernel
theorem dX8_carriesOf_4 : decode cX8_carriesOf 4 = .ok (.iconst 0, 1) := by decide +kernel
theorem dX8_carriesOf_5 : decode cX8_carriesOf 5 = .ok (.goto 26, 3) := by decide +kernel
theorem dX8_carriesOf_8 : decode cX8_carriesOf 8 = .ok (.aload_n 0, 1) := by decide +kernel
theorem dX8_carriesOf_9 : decode cX8_carriesOf 9 = .ok (.iload_n 1, 1) := by decide +kernel
theorem dX8_carriesOf_10 : decode cX8_carriesOf 10 = .ok (.iconst 1, 1) := by decide +kernel
theorem dX8_carriesOf_11 : decode cX8_carriesOf 11 = .ok (.isub, 1) := by decide +kernel
theorem dX8_carriesOf_12 : decode cX8_carriesOf 12 = .ok (.aload_n 0, 1) := by decide +kernel
theorem dX8_carriesOf_13 : decode cX8_carriesOf 13 = .ok (.getfield 34, 3) := by decide +kernel
theorem dX8_carriesOf_16 : decode cX8_carriesOf 16 = .ok (.iload_n 1, 1) := by decide +kernel
theorem dX8_carriesOf_17 : decode cX8_carriesOf 17 = .ok (.iconst 1, 1) := by decide +kernel
theorem dX8_carriesOf_18 : decode cX8_carriesOf 18 = .ok (.isub, 1) := by decide +kernel
theorem dX8_carriesOf_19 : decode cX8_carriesOf 19 = .ok (.iaload, 1) := by decide +kernel
theorem dX8_carriesOf_20 : decode cX8_carriesOf 20 = .ok (.aload_n 0, 1) := by decide +kernel
theorem dX8_carriesOf_21 : decode cX8_carriesOf 21 = .ok (.getfield 37, 3) := by decide +kernel
theorem dX8_carriesOf_24 : decode cX8_carriesOf 24 = .ok (.iload_n 1, 1) := by decide +kernel
theorem dX8_carriesOf_25 : decode cX8_carriesOf 25 = .ok (.iconst 1, 1) := by decide +kernel
theorem dX8_carriesOf_26 : decode cX8_carriesOf 26 = .ok (.isub, 1) := by decide +kernel
theorem dX8_carriesOf_27 : decode cX8_carriesOf 27 = .ok (.iaload, 1) := by decide +kernel
theorem dX8_carriesOf_28 : decode cX8_carriesOf 28 = .ok (.invokevirtual 153, 3) := by decide +kernel
theorem dX8_carriesOf_31 : decode cX8_carriesOf 31 = .ok (.istore_n 2, 1) := by decide +kernel
theorem dX8_carriesOf_32 : decode cX8_carriesOf 32 = .ok (.iload_n 1, 1) := by decide +kernel
theorem dX8_carriesOf_33 : decode cX8_carriesOf 33 = .ok (.iconst 3, 1) := by decide +kernel
theorem dX8_carriesOf_34 : decode cX8_carriesOf 34 = .ok (.if_icmp .ne 7, 3) := by decide +kernel
theorem dX8_carriesOf_37 : decode cX8_carriesOf 37 = .ok (.iconst 0, 1) := by decide +kernel
theorem dX8_carriesOf_38 : decode cX8_carriesOf 38 = .ok (.goto 20, 3) := by decide +kernel
theorem dX8_carriesOf_41 : decode cX8_carriesOf 41 = .ok (.aload_n 0, 1) := by decide +kernel
theorem dX8_carriesOf_42 : decode cX8_carriesOf 42 = .ok (.iload_n 1, 1) := by decide +kernel
theorem dX8_carriesOf_43 : decode cX8_carriesOf 43 = .ok (.aload_n 0, 1) := by decide +kernel
theorem dX8_carriesOf_44 : decode cX8_carriesOf 44 = .ok (.getfield 34, 3) := by decide +kernel
theorem dX8_carriesOf_47 : decode cX8_carriesOf 47 = .ok (.iload_n 1, 1) := by decide +kernel
theorem dX8_carriesOf_48 : decode cX8_carriesOf 48 = .ok (.iaload, 1) := by decide +kernel
theorem dX8_carriesOf_49 : decode cX8_carriesOf 49 = .ok (.aload_n 0, 1) := by decide +kernel
theorem dX8_carriesOf_50 : decode cX8_carriesOf 50 = .ok (.getfield 37, 3) := by decide +kernel
theorem dX8_carriesOf_53 : decode cX8_carriesOf 53 = .ok (.iload_n 1, 1) := by decide +kernel
theorem dX8_carriesOf_54 : decode cX8_carriesOf 54 = .ok (.iaload, 1) := by decide +kernel
theorem dX8_carriesOf_55 : decode cX8_carriesOf 55 = .ok (.invokevirtual 153, 3) := by decide +kernel
theorem dX8_carriesOf_58 : decode cX8_carriesOf 58 = .ok (.istore_n 3, 1) := by decide +kernel
theorem dX8_carriesOf_59 : decode cX8_carriesOf 59 = .ok (.iload_n 2, 1) := by decide +kernel
theorem dX8_carriesOf_60 : decode cX8_carriesOf 60 = .ok (.iconst (-1), 1) := by decide +kernel
theorem dX8_carriesOf_61 : decode cX8_carriesOf 61 = .ok (.if_icmp .eq 8, 3) := by decide +kernel
theorem dX8_carriesOf_64 : decode cX8_carriesOf 64 = .ok (.iload_n 3, 1) := by decide +kernel
theorem dX8_carriesOf_65 : decode cX8_carriesOf 65 = .ok (.iconst (-1), 1) := by decide +kernel
theorem dX8_carriesOf_66 : decode cX8_carriesOf 66 = .ok (.if_icmp .ne 7, 3) := by decide +kernel
theorem dX8_carriesOf_69 : decode cX8_carriesOf 69 = .ok (.iconst (-1), 1) := by decide +kernel
theorem dX8_carriesOf_70 : decode cX8_carriesOf 70 = .ok (.goto 9, 3) := by decide +kernel
theorem dX8_carriesOf_73 : decode cX8_carriesOf 73 = .ok (.bipush 100, 2) := by decide +kernel
theorem dX8_carriesOf_75 : decode cX8_carriesOf 75 = .ok (.iload_n 3, 1) := by decide +kernel
theorem dX8_carriesOf_76 : decode cX8_carriesOf 76 = .ok (.iadd, 1) := by decide +kernel
theorem dX8_carriesOf_77 : decode cX8_carriesOf 77 = .ok (.iload_n 2, 1) := by decide +kernel
theorem dX8_carriesOf_78 : decode cX8_carriesOf 78 = .ok (.isub, 1) := by decide +kernel
theorem dX8_carriesOf_79 : decode cX8_carriesOf 79 = .ok (.ireturn, 1) := by decide +kernel
theorem dX8_carriesNow_0 : decode cX8_carriesNow 0 = .ok (.aload_n 0, 1) := by decide +kernel
theorem dX8_carriesNow_1 : decode cX8_carriesNow 1 = .ok (.invokevirtual 147, 3) := by decide +kernel
theorem dX8_carriesNow_4 : decode cX8_carriesNow 4 = .ok (.ifCond .eq 11, 3) := by decide +kernel
theorem dX8_carriesNow_7 : decode cX8_carriesNow 7 = .ok (.aload_n 0, 1) := by decide +kernel
theorem dX8_carriesNow_8 : decode cX8_carriesNow 8 = .ok (.iload_n 1, 1) := by decide +kernel
theorem dX8_carriesNow_9 : decode cX8_carriesNow 9 = .ok (.invokevirtual 165, 3) := by decide +kernel
theorem dX8_carriesNow_12 : decode cX8_carriesNow 12 = .ok (.goto 5, 3) := by decide +kernel
theorem dX8_carriesNow_15 : decode cX8_carriesNow 15 = .ok (.bipush (-3), 2) := by decide +kernel
theorem dX8_carriesNow_17 : decode cX8_carriesNow 17 = .ok (.ireturn, 1) := by decide +kernel
theorem dX8_carries_0 : decode cX8_carries 0 = .ok (.iload_n 1, 1) := by decide +kernel
theorem dX8_carries_1 : decode cX8_carries 1 = .ok (.invokestatic 104, 3) := by decide +kernel
theorem dX8_carries_4 : decode cX8_carries 4 = .ok (.ifCond .eq 11, 3) := by decide +kernel
theorem dX8_carries_7 : decode cX8_carries 7 = .ok (.aload_n 0, 1) := by decide +kernel
theorem dX8_carries_8 : decode cX8_carries 8 = .ok (.iload_n 1, 1) := by decide +kernel
theorem dX8_carries_9 : decode cX8_carries 9 = .ok (.invokevirtual 168, 3) := by decide +kernel
theorem dX8_carries_12 : decode cX8_carries 12 = .ok (.goto 5, 3) := by decide +kernel
theorem dX8_carries_15 : decode cX8_carries 15 = .ok (.bipush (-2), 2) := by decide +kernel
theorem dX8_carries_17 : decode cX8_carries 17 = .ok (.ireturn, 1) := by decide +kernel
theorem dX8_oddsOf_0 : decode cX8_oddsOf 0 = .ok (.iload_n 0, 1) := by decide +kernel
theorem dX8_oddsOf_1 : decode cX8_oddsOf 1 = .ok (.iconst 2, 1) := by decide +kernel
theorem dX8_oddsOf_2 : decode cX8_oddsOf 2 = .ok (.if_icmp .ne 8, 3) := by decide +kernel
theorem dX8_oddsOf_5 : decode cX8_oddsOf 5 = .ok (.bipush 6, 2) := by decide +kernel
theorem dX8_oddsOf_7 : decode cX8_oddsOf 7 = .ok (.goto 15, 3) := by decide +kernel
theorem dX8_oddsOf_10 : decode cX8_oddsOf 10 = .ok (.iload_n 0, 1) := by decide +kernel
theorem dX8_oddsOf_11 : decode cX8_oddsOf 11 = .ok (.iconst 2, 1) := by decide +kernel
theorem dX8_oddsOf_12 : decode cX8_oddsOf 12 = .ok (.irem, 1) := by decide +kernel
theorem dX8_oddsOf_13 : decode cX8_oddsOf 13 = .ok (.iconst 1, 1) := by decide +kernel
theorem dX8_oddsOf_14 : decode cX8_oddsOf 14 = .ok (.if_icmp .ne 7, 3) := by decide +kernel
theorem dX8_oddsOf_17 : decode cX8_oddsOf 17 = .ok (.iconst 4, 1) := by decide +kernel
theorem dX8_oddsOf_18 : decode cX8_oddsOf 18 = .ok (.goto 4, 3) := by decide +kernel
theorem dX8_oddsOf_21 : decode cX8_oddsOf 21 = .ok (.iconst 1, 1) := by decide +kernel
theorem dX8_oddsOf_22 : decode cX8_oddsOf 22 = .ok (.ireturn, 1) := by decide +kernel
theorem dX8_chanceBy_0 : decode cX8_chanceBy 0 = .ok (.iconst 0, 1) := by decide +kernel
theorem dX8_chanceBy_1 : decode cX8_chanceBy 1 = .ok (.istore_n 3, 1) := by decide +kernel
theorem dX8_chanceBy_2 : decode cX8_chanceBy 2 = .ok (.iconst 0, 1) := by decide +kernel
theorem dX8_chanceBy_3 : decode cX8_chanceBy 3 = .ok (.istore 4, 2) := by decide +kernel
theorem dX8_chanceBy_5 : decode cX8_chanceBy 5 = .ok (.iload 4, 2) := by decide +kernel
theorem dX8_chanceBy_7 : decode cX8_chanceBy 7 = .ok (.iconst 5, 1) := by decide +kernel
theorem dX8_chanceBy_8 : decode cX8_chanceBy 8 = .ok (.if_icmp .ge 43, 3) := by decide +kernel
theorem dX8_chanceBy_11 : decode cX8_chanceBy 11 = .ok (.iload_n 3, 1) := by decide +kernel
theorem dX8_chanceBy_12 : decode cX8_chanceBy 12 = .ok (.aload_n 0, 1) := by decide +kernel
theorem dX8_chanceBy_13 : decode cX8_chanceBy 13 = .ok (.iload_n 1, 1) := by decide +kernel
theorem dX8_chanceBy_14 : decode cX8_chanceBy 14 = .ok (.iload_n 2, 1) := by decide +kernel
theorem dX8_chanceBy_15 : decode cX8_chanceBy 15 = .ok (.iload 4, 2) := by decide +kernel
theorem dX8_chanceBy_17 : decode cX8_chanceBy 17 = .ok (.iconst 2, 1) := by decide +kernel
theorem dX8_chanceBy_18 : decode cX8_chanceBy 18 = .ok (.isub, 1) := by decide +kernel
theorem dX8_chanceBy_19 : decode cX8_chanceBy 19 = .ok (.aload_n 0, 1) := by decide +kernel
theorem dX8_chanceBy_20 : decode cX8_chanceBy 20 = .ok (.getfield 31, 3) := by decide +kernel
theorem dX8_chanceBy_23 : decode cX8_chanceBy 23 = .ok (.bipush 6, 2) := by decide +kernel
theorem dX8_chanceBy_25 : decode cX8_chanceBy 25 = .ok (.iaload, 1) := by decide +kernel
theorem dX8_chanceBy_26 : decode cX8_chanceBy 26 = .ok (.imul, 1) := by decide +kernel
theorem dX8_chanceBy_27 : decode cX8_chanceBy 27 = .ok (.invokevirtual 153, 3) := by decide +kernel
theorem dX8_chanceBy_30 : decode cX8_chanceBy 30 = .ok (.iconst (-1), 1) := by decide +kernel
theorem dX8_chanceBy_31 : decode cX8_chanceBy 31 = .ok (.if_icmp .ne 7, 3) := by decide +kernel
theorem dX8_chanceBy_34 : decode cX8_chanceBy 34 = .ok (.iconst 0, 1) := by decide +kernel
theorem dX8_chanceBy_35 : decode cX8_chanceBy 35 = .ok (.goto 8, 3) := by decide +kernel
theorem dX8_chanceBy_38 : decode cX8_chanceBy 38 = .ok (.iload 4, 2) := by decide +kernel
theorem dX8_chanceBy_40 : decode cX8_chanceBy 40 = .ok (.invokestatic 171, 3) := by decide +kernel
theorem dX8_chanceBy_43 : decode cX8_chanceBy 43 = .ok (.iadd, 1) := by decide +kernel
theorem dX8_chanceBy_44 : decode cX8_chanceBy 44 = .ok (.istore_n 3, 1) := by decide +kernel
theorem dX8_chanceBy_45 : decode cX8_chanceBy 45 = .ok (.iinc 4 1, 3) := by decide +kernel
theorem dX8_chanceBy_48 : decode cX8_chanceBy 48 = .ok (.goto (-43), 3) := by decide +kernel
theorem dX8_chanceBy_51 : decode cX8_chanceBy 51 = .ok (.iload_n 3, 1) := by decide +kernel
theorem dX8_chanceBy_52 : decode cX8_chanceBy 52 = .ok (.ireturn, 1) := by decide +kernel
theorem dX8_chanceNow_0 : decode cX8_chanceNow 0 = .ok (.aload_n 0, 1) := by decide +kernel
theorem dX8_chanceNow_1 : decode cX8_chanceNow 1 = .ok (.invokevirtual 147, 3) := by decide +kernel
theorem dX8_chanceNow_4 : decode cX8_chanceNow 4 = .ok (.ifCond .eq 17, 3) := by decide +kernel
theorem dX8_chanceNow_7 : decode cX8_chanceNow 7 = .ok (.aload_n 0, 1) := by decide +kernel
theorem dX8_chanceNow_8 : decode cX8_chanceNow 8 = .ok (.iload_n 1, 1) := by decide +kernel
theorem dX8_chanceNow_9 : decode cX8_chanceNow 9 = .ok (.aload_n 0, 1) := by decide +kernel
theorem dX8_chanceNow_10 : decode cX8_chanceNow 10 = .ok (.getfield 34, 3) := by decide +kernel
theorem dX8_chanceNow_13 : decode cX8_chanceNow 13 = .ok (.iload_n 1, 1) := by decide +kernel
theorem dX8_chanceNow_14 : decode cX8_chanceNow 14 = .ok (.iaload, 1) := by decide +kernel
theorem dX8_chanceNow_15 : decode cX8_chanceNow 15 = .ok (.invokevirtual 174, 3) := by decide +kernel
theorem dX8_chanceNow_18 : decode cX8_chanceNow 18 = .ok (.goto 5, 3) := by decide +kernel
theorem dX8_chanceNow_21 : decode cX8_chanceNow 21 = .ok (.bipush (-3), 2) := by decide +kernel
theorem dX8_chanceNow_23 : decode cX8_chanceNow 23 = .ok (.ireturn, 1) := by decide +kernel
theorem dX8_chance_0 : decode cX8_chance 0 = .ok (.iload_n 1, 1) := by decide +kernel
theorem dX8_chance_1 : decode cX8_chance 1 = .ok (.invokestatic 116, 3) := by decide +kernel
theorem dX8_chance_4 : decode cX8_chance 4 = .ok (.ifCond .eq 11, 3) := by decide +kernel
theorem dX8_chance_7 : decode cX8_chance 7 = .ok (.aload_n 0, 1) := by decide +kernel
theorem dX8_chance_8 : decode cX8_chance 8 = .ok (.iload_n 1, 1) := by decide +kernel
theorem dX8_chance_9 : decode cX8_chance 9 = .ok (.invokevirtual 177, 3) := by decide +kernel
theorem dX8_chance_12 : decode cX8_chance 12 = .ok (.goto 5, 3) := by decide +kernel
theorem dX8_chance_15 : decode cX8_chance 15 = .ok (.bipush (-2), 2) := by decide +kernel
theorem dX8_chance_17 : decode cX8_chance 17 = .ok (.ireturn, 1) := by decide +kernel
theorem dX8_part_0 : decode cX8_part 0 = .ok (.lload_n 0, 1) := by decide +kernel
theorem dX8_part_1 : decode cX8_part 1 = .ok (.lstore 5, 2) := by decide +kernel
theorem dX8_part_3 : decode cX8_part 3 = .ok (.lload_n 2, 1) := by decide +kernel
theorem dX8_part_4 : decode cX8_part 4 = .ok (.lstore 7, 2) := by decide +kernel
theorem dX8_part_6 : decode cX8_part 6 = .ok (.lload 7, 2) := by decide +kernel
theorem dX8_part_8 : decode cX8_part 8 = .ok (.lconst 0, 1) := by decide +kernel
theorem dX8_part_9 : decode cX8_part 9 = .ok (.lcmp, 1) := by decide +kernel
theorem dX8_part_10 : decode cX8_part 10 = .ok (.ifCond .eq 21, 3) := by decide +kernel
theorem dX8_part_13 : decode cX8_part 13 = .ok (.lload 5, 2) := by decide +kernel
theorem dX8_part_15 : decode cX8_part 15 = .ok (.lload 7, 2) := by decide +kernel
theorem dX8_part_17 : decode cX8_part 17 = .ok (.lrem, 1) := by decide +kernel
theorem dX8_part_18 : decode cX8_part 18 = .ok (.lstore 9, 2) := by decide +kernel
theorem dX8_part_20 : decode cX8_part 20 = .ok (.lload 7, 2) := by decide +kernel
theorem dX8_part_22 : decode cX8_part 22 = .ok (.lstore 5, 2) := by decide +kernel
theorem dX8_part_24 : decode cX8_part 24 = .ok (.lload 9, 2) := by decide +kernel
theorem dX8_part_26 : decode cX8_part 26 = .ok (.lstore 7, 2) := by decide +kernel
theorem dX8_part_28 : decode cX8_part 28 = .ok (.goto (-22), 3) := by decide +kernel
theorem dX8_part_31 : decode cX8_part 31 = .ok (.iload 4, 2) := by decide +kernel
theorem dX8_part_33 : decode cX8_part 33 = .ok (.ifCond .ne 7, 3) := by decide +kernel
theorem dX8_part_36 : decode cX8_part 36 = .ok (.lload_n 0, 1) := by decide +kernel
theorem dX8_part_37 : decode cX8_part 37 = .ok (.goto 4, 3) := by decide +kernel
theorem dX8_part_40 : decode cX8_part 40 = .ok (.lload_n 2, 1) := by decide +kernel
theorem dX8_part_41 : decode cX8_part 41 = .ok (.lload 5, 2) := by decide +kernel
theorem dX8_part_43 : decode cX8_part 43 = .ok (.ldiv, 1) := by decide +kernel
theorem dX8_part_44 : decode cX8_part 44 = .ok (.lreturn, 1) := by decide +kernel
theorem dX8_allNow_0 : decode cX8_allNow 0 = .ok (.aload_n 0, 1) := by decide +kernel
theorem dX8_allNow_1 : decode cX8_allNow 1 = .ok (.invokevirtual 147, 3) := by decide +kernel
theorem dX8_allNow_4 : decode cX8_allNow 4 = .ok (.ifCond .ne 9, 3) := by decide +kernel
theorem dX8_allNow_7 : decode cX8_allNow 7 = .ok (.bipush (-3), 2) := by decide +kernel
theorem dX8_allNow_9 : decode cX8_allNow 9 = .ok (.invokestatic 180, 3) := by decide +kernel
theorem dX8_allNow_12 : decode cX8_allNow 12 = .ok (.lreturn, 1) := by decide +kernel
theorem dX8_allNow_13 : decode cX8_allNow 13 = .ok (.lconst 1, 1) := by decide +kernel
theorem dX8_allNow_14 : decode cX8_allNow 14 = .ok (.lstore_n 2, 1) := by decide +kernel
theorem dX8_allNow_15 : decode cX8_allNow 15 = .ok (.iconst 0, 1) := by decide +kernel
theorem dX8_allNow_16 : decode cX8_allNow 16 = .ok (.istore 4, 2) := by decide +kernel
theorem dX8_allNow_18 : decode cX8_allNow 18 = .ok (.iload 4, 2) := by decide +kernel
theorem dX8_allNow_20 : decode cX8_allNow 20 = .ok (.iconst 3, 1) := by decide +kernel
theorem dX8_allNow_21 : decode cX8_allNow 21 = .ok (.if_icmp .ge 26, 3) := by decide +kernel
theorem dX8_allNow_24 : decode cX8_allNow 24 = .ok (.lload_n 2, 1) := by decide +kernel
theorem dX8_allNow_25 : decode cX8_allNow 25 = .ok (.aload_n 0, 1) := by decide +kernel
theorem dX8_allNow_26 : decode cX8_allNow 26 = .ok (.iload 4, 2) := by decide +kernel
theorem dX8_allNow_28 : decode cX8_allNow 28 = .ok (.aload_n 0, 1) := by decide +kernel
theorem dX8_allNow_29 : decode cX8_allNow 29 = .ok (.getfield 34, 3) := by decide +kernel
theorem dX8_allNow_32 : decode cX8_allNow 32 = .ok (.iload 4, 2) := by decide +kernel
theorem dX8_allNow_34 : decode cX8_allNow 34 = .ok (.iaload, 1) := by decide +kernel
theorem dX8_allNow_35 : decode cX8_allNow 35 = .ok (.invokevirtual 174, 3) := by decide +kernel
theorem dX8_allNow_38 : decode cX8_allNow 38 = .ok (.i2l, 1) := by decide +kernel
theorem dX8_allNow_39 : decode cX8_allNow 39 = .ok (.lmul, 1) := by decide +kernel
theorem dX8_allNow_40 : decode cX8_allNow 40 = .ok (.lstore_n 2, 1) := by decide +kernel
theorem dX8_allNow_41 : decode cX8_allNow 41 = .ok (.iinc 4 1, 3) := by decide +kernel
theorem dX8_allNow_44 : decode cX8_allNow 44 = .ok (.goto (-26), 3) := by decide +kernel
theorem dX8_allNow_47 : decode cX8_allNow 47 = .ok (.lload_n 2, 1) := by decide +kernel
theorem dX8_allNow_48 : decode cX8_allNow 48 = .ok (.ldc2_w 184, 3) := by decide +kernel
theorem dX8_allNow_51 : decode cX8_allNow 51 = .ok (.iload_n 1, 1) := by decide +kernel
theorem dX8_allNow_52 : decode cX8_allNow 52 = .ok (.invokestatic 186, 3) := by decide +kernel
theorem dX8_allNow_55 : decode cX8_allNow 55 = .ok (.lreturn, 1) := by decide +kernel
theorem dX8_all_0 : decode cX8_all 0 = .ok (.iload_n 1, 1) := by decide +kernel
theorem dX8_all_1 : decode cX8_all 1 = .ok (.invokestatic 144, 3) := by decide +kernel
theorem dX8_all_4 : decode cX8_all 4 = .ok (.ifCond .eq 11, 3) := by decide +kernel
theorem dX8_all_7 : decode cX8_all 7 = .ok (.aload_n 0, 1) := by decide +kernel
theorem dX8_all_8 : decode cX8_all 8 = .ok (.iload_n 1, 1) := by decide +kernel
theorem dX8_all_9 : decode cX8_all 9 = .ok (.invokevirtual 190, 3) := by decide +kernel
theorem dX8_all_12 : decode cX8_all 12 = .ok (.goto 8, 3) := by decide +kernel
theorem dX8_all_15 : decode cX8_all 15 = .ok (.bipush (-2), 2) := by decide +kernel
theorem dX8_all_17 : decode cX8_all 17 = .ok (.invokestatic 180, 3) := by decide +kernel
theorem dX8_all_20 : decode cX8_all 20 = .ok (.lreturn, 1) := by decide +kernel
theorem dX8_safeNow_0 : decode cX8_safeNow 0 = .ok (.aload_n 0, 1) := by decide +kernel
theorem dX8_safeNow_1 : decode cX8_safeNow 1 = .ok (.invokevirtual 147, 3) := by decide +kernel
theorem dX8_safeNow_4 : decode cX8_safeNow 4 = .ok (.ifCond .ne 6, 3) := by decide +kernel
theorem dX8_safeNow_7 : decode cX8_safeNow 7 = .ok (.bipush (-3), 2) := by decide +kernel
theorem dX8_safeNow_9 : decode cX8_safeNow 9 = .ok (.ireturn, 1) := by decide +kernel
theorem dX8_safeNow_10 : decode cX8_safeNow 10 = .ok (.bipush 40, 2) := by decide +kernel
theorem dX8_safeNow_12 : decode cX8_safeNow 12 = .ok (.istore_n 3, 1) := by decide +kernel
theorem dX8_safeNow_13 : decode cX8_safeNow 13 = .ok (.iload_n 3, 1) := by decide +kernel
theorem dX8_safeNow_14 : decode cX8_safeNow 14 = .ok (.ifCond .lt 19, 3) := by decide +kernel
theorem dX8_safeNow_17 : decode cX8_safeNow 17 = .ok (.aload_n 0, 1) := by decide +kernel
theorem dX8_safeNow_18 : decode cX8_safeNow 18 = .ok (.iload_n 1, 1) := by decide +kernel
theorem dX8_safeNow_19 : decode cX8_safeNow 19 = .ok (.iload_n 3, 1) := by decide +kernel
theorem dX8_safeNow_20 : decode cX8_safeNow 20 = .ok (.invokevirtual 174, 3) := by decide +kernel
theorem dX8_safeNow_23 : decode cX8_safeNow 23 = .ok (.iload_n 2, 1) := by decide +kernel
theorem dX8_safeNow_24 : decode cX8_safeNow 24 = .ok (.if_icmp .ge 9, 3) := by decide +kernel
theorem dX8_safeNow_27 : decode cX8_safeNow 27 = .ok (.iinc 3 (-1), 3) := by decide +kernel
theorem dX8_safeNow_30 : decode cX8_safeNow 30 = .ok (.goto (-17), 3) := by decide +kernel
theorem dX8_safeNow_33 : decode cX8_safeNow 33 = .ok (.iload_n 3, 1) := by decide +kernel
theorem dX8_safeNow_34 : decode cX8_safeNow 34 = .ok (.ireturn, 1) := by decide +kernel
theorem dX8_safe_0 : decode cX8_safe 0 = .ok (.iload_n 1, 1) := by decide +kernel
theorem dX8_safe_1 : decode cX8_safe 1 = .ok (.invokestatic 116, 3) := by decide +kernel
theorem dX8_safe_4 : decode cX8_safe 4 = .ok (.ifCond .eq 24, 3) := by decide +kernel
theorem dX8_safe_7 : decode cX8_safe 7 = .ok (.iload_n 2, 1) := by decide +kernel
theorem dX8_safe_8 : decode cX8_safe 8 = .ok (.i2l, 1) := by decide +kernel
theorem dX8_safe_9 : decode cX8_safe 9 = .ok (.lconst 0, 1) := by decide +kernel
theorem dX8_safe_10 : decode cX8_safe 10 = .ok (.ldc2_w 193, 3) := by decide +kernel
theorem dX8_safe_13 : decode cX8_safe 13 = .ok (.invokestatic 48, 3) := by decide +kernel
theorem dX8_safe_16 : decode cX8_safe 16 = .ok (.ifCond .eq 12, 3) := by decide +kernel
theorem dX8_safe_19 : decode cX8_safe 19 = .ok (.aload_n 0, 1) := by decide +kernel
theorem dX8_safe_20 : decode cX8_safe 20 = .ok (.iload_n 1, 1) := by decide +kernel
theorem dX8_safe_21 : decode cX8_safe 21 = .ok (.iload_n 2, 1) := by decide +kernel
theorem dX8_safe_22 : decode cX8_safe 22 = .ok (.invokevirtual 195, 3) := by decide +kernel
theorem dX8_safe_25 : decode cX8_safe 25 = .ok (.goto 5, 3) := by decide +kernel
theorem dX8_safe_28 : decode cX8_safe 28 = .ok (.bipush (-2), 2) := by decide +kernel
theorem dX8_safe_30 : decode cX8_safe 30 = .ok (.ireturn, 1) := by decide +kernel
theorem dX8_lost_0 : decode cX8_lost 0 = .ok (.iload_n 1, 1) := by decide +kernel
theorem dX8_lost_1 : decode cX8_lost 1 = .ok (.ifCond .ne 12, 3) := by decide +kernel
theorem dX8_lost_4 : decode cX8_lost 4 = .ok (.aload_n 0, 1) := by decide +kernel
theorem dX8_lost_5 : decode cX8_lost 5 = .ok (.getfield 31, 3) := by decide +kernel
theorem dX8_lost_8 : decode cX8_lost 8 = .ok (.iconst 5, 1) := by decide +kernel
theorem dX8_lost_9 : decode cX8_lost 9 = .ok (.iaload, 1) := by decide +kernel
theorem dX8_lost_10 : decode cX8_lost 10 = .ok (.goto 4, 3) := by decide +kernel
theorem dX8_lost_13 : decode cX8_lost 13 = .ok (.iconst 0, 1) := by decide +kernel
theorem dX8_lost_14 : decode cX8_lost 14 = .ok (.ireturn, 1) := by decide +kernel
theorem dX8_bestBy_0 : decode cX8_bestBy 0 = .ok (.iconst (-1), 1) := by decide +kernel
theorem dX8_bestBy_1 : decode cX8_bestBy 1 = .ok (.istore 5, 2) := by decide +kernel
theorem dX8_bestBy_3 : decode cX8_bestBy 3 = .ok (.iconst 0, 1) := by decide +kernel
theorem dX8_bestBy_4 : decode cX8_bestBy 4 = .ok (.istore 6, 2) := by decide +kernel
theorem dX8_bestBy_6 : decode cX8_bestBy 6 = .ok (.iconst 0, 1) := by decide +kernel
theorem dX8_bestBy_7 : decode cX8_bestBy 7 = .ok (.istore 7, 2) := by decide +kernel
theorem dX8_bestBy_9 : decode cX8_bestBy 9 = .ok (.iload 7, 2) := by decide +kernel
theorem dX8_bestBy_11 : decode cX8_bestBy 11 = .ok (.bipush 40, 2) := by decide +kernel
theorem dX8_bestBy_13 : decode cX8_bestBy 13 = .ok (.if_icmp .gt 68, 3) := by decide +kernel
theorem dX8_bestBy_16 : decode cX8_bestBy 16 = .ok (.aload_n 0, 1) := by decide +kernel
theorem dX8_bestBy_17 : decode cX8_bestBy 17 = .ok (.iload_n 1, 1) := by decide +kernel
theorem dX8_bestBy_18 : decode cX8_bestBy 18 = .ok (.iload_n 2, 1) := by decide +kernel
theorem dX8_bestBy_19 : decode cX8_bestBy 19 = .ok (.iload_n 3, 1) := by decide +kernel
theorem dX8_bestBy_20 : decode cX8_bestBy 20 = .ok (.iload 7, 2) := by decide +kernel
theorem dX8_bestBy_22 : decode cX8_bestBy 22 = .ok (.iload 4, 2) := by decide +kernel
theorem dX8_bestBy_24 : decode cX8_bestBy 24 = .ok (.invokevirtual 140, 3) := by decide +kernel
theorem dX8_bestBy_27 : decode cX8_bestBy 27 = .ok (.istore 8, 2) := by decide +kernel
theorem dX8_bestBy_29 : decode cX8_bestBy 29 = .ok (.aload_n 0, 1) := by decide +kernel
theorem dX8_bestBy_30 : decode cX8_bestBy 30 = .ok (.iload_n 1, 1) := by decide +kernel
theorem dX8_bestBy_31 : decode cX8_bestBy 31 = .ok (.iload_n 3, 1) := by decide +kernel
theorem dX8_bestBy_32 : decode cX8_bestBy 32 = .ok (.iload 7, 2) := by decide +kernel
theorem dX8_bestBy_34 : decode cX8_bestBy 34 = .ok (.iload 4, 2) := by decide +kernel
theorem dX8_bestBy_36 : decode cX8_bestBy 36 = .ok (.invokevirtual 136, 3) := by decide +kernel
theorem dX8_bestBy_39 : decode cX8_bestBy 39 = .ok (.aload_n 0, 1) := by decide +kernel
theorem dX8_bestBy_40 : decode cX8_bestBy 40 = .ok (.iload 8, 2) := by decide +kernel
theorem dX8_bestBy_42 : decode cX8_bestBy 42 = .ok (.invokevirtual 198, 3) := by decide +kernel
theorem dX8_bestBy_45 : decode cX8_bestBy 45 = .ok (.iadd, 1) := by decide +kernel
theorem dX8_bestBy_46 : decode cX8_bestBy 46 = .ok (.istore 9, 2) := by decide +kernel
theorem dX8_bestBy_48 : decode cX8_bestBy 48 = .ok (.iload 8, 2) := by decide +kernel
theorem dX8_bestBy_50 : decode cX8_bestBy 50 = .ok (.iconst (-1), 1) := by decide +kernel
theorem dX8_bestBy_51 : decode cX8_bestBy 51 = .ok (.if_icmp .eq 24, 3) := by decide +kernel
theorem dX8_bestBy_54 : decode cX8_bestBy 54 = .ok (.iload 5, 2) := by decide +kernel
theorem dX8_bestBy_56 : decode cX8_bestBy 56 = .ok (.iconst (-1), 1) := by decide +kernel
theorem dX8_bestBy_57 : decode cX8_bestBy 57 = .ok (.if_icmp .eq 10, 3) := by decide +kernel
theorem dX8_bestBy_60 : decode cX8_bestBy 60 = .ok (.iload 9, 2) := by decide +kernel
theorem dX8_bestBy_62 : decode cX8_bestBy 62 = .ok (.iload 6, 2) := by decide +kernel
theorem dX8_bestBy_64 : decode cX8_bestBy 64 = .ok (.if_icmp .ge 11, 3) := by decide +kernel
theorem dX8_bestBy_67 : decode cX8_bestBy 67 = .ok (.iload 7, 2) := by decide +kernel
theorem dX8_bestBy_69 : decode cX8_bestBy 69 = .ok (.istore 5, 2) := by decide +kernel
theorem dX8_bestBy_71 : decode cX8_bestBy 71 = .ok (.iload 9, 2) := by decide +kernel
theorem dX8_bestBy_73 : decode cX8_bestBy 73 = .ok (.istore 6, 2) := by decide +kernel
theorem dX8_bestBy_75 : decode cX8_bestBy 75 = .ok (.iinc 7 1, 3) := by decide +kernel
theorem dX8_bestBy_78 : decode cX8_bestBy 78 = .ok (.goto (-69), 3) := by decide +kernel
theorem dX8_bestBy_81 : decode cX8_bestBy 81 = .ok (.iload 5, 2) := by decide +kernel
theorem dX8_bestBy_83 : decode cX8_bestBy 83 = .ok (.ireturn, 1) := by decide +kernel
theorem dX8_bestNow_0 : decode cX8_bestNow 0 = .ok (.aload_n 0, 1) := by decide +kernel
theorem dX8_bestNow_1 : decode cX8_bestNow 1 = .ok (.invokevirtual 147, 3) := by decide +kernel
theorem dX8_bestNow_4 : decode cX8_bestNow 4 = .ok (.ifCond .eq 31, 3) := by decide +kernel
theorem dX8_bestNow_7 : decode cX8_bestNow 7 = .ok (.aload_n 0, 1) := by decide +kernel
theorem dX8_bestNow_8 : decode cX8_bestNow 8 = .ok (.aload_n 0, 1) := by decide +kernel
theorem dX8_bestNow_9 : decode cX8_bestNow 9 = .ok (.getfield 28, 3) := by decide +kernel
theorem dX8_bestNow_12 : decode cX8_bestNow 12 = .ok (.iload_n 1, 1) := by decide +kernel
theorem dX8_bestNow_13 : decode cX8_bestNow 13 = .ok (.iaload, 1) := by decide +kernel
theorem dX8_bestNow_14 : decode cX8_bestNow 14 = .ok (.aload_n 0, 1) := by decide +kernel
theorem dX8_bestNow_15 : decode cX8_bestNow 15 = .ok (.getfield 28, 3) := by decide +kernel
theorem dX8_bestNow_18 : decode cX8_bestNow 18 = .ok (.iload_n 1, 1) := by decide +kernel
theorem dX8_bestNow_19 : decode cX8_bestNow 19 = .ok (.iconst 1, 1) := by decide +kernel
theorem dX8_bestNow_20 : decode cX8_bestNow 20 = .ok (.iadd, 1) := by decide +kernel
theorem dX8_bestNow_21 : decode cX8_bestNow 21 = .ok (.iaload, 1) := by decide +kernel
theorem dX8_bestNow_22 : decode cX8_bestNow 22 = .ok (.iload_n 1, 1) := by decide +kernel
theorem dX8_bestNow_23 : decode cX8_bestNow 23 = .ok (.aload_n 0, 1) := by decide +kernel
theorem dX8_bestNow_24 : decode cX8_bestNow 24 = .ok (.getfield 37, 3) := by decide +kernel
theorem dX8_bestNow_27 : decode cX8_bestNow 27 = .ok (.iload_n 1, 1) := by decide +kernel
theorem dX8_bestNow_28 : decode cX8_bestNow 28 = .ok (.iaload, 1) := by decide +kernel
theorem dX8_bestNow_29 : decode cX8_bestNow 29 = .ok (.invokevirtual 201, 3) := by decide +kernel
theorem dX8_bestNow_32 : decode cX8_bestNow 32 = .ok (.goto 5, 3) := by decide +kernel
theorem dX8_bestNow_35 : decode cX8_bestNow 35 = .ok (.bipush (-3), 2) := by decide +kernel
theorem dX8_bestNow_37 : decode cX8_bestNow 37 = .ok (.ireturn, 1) := by decide +kernel
theorem dX8_best_0 : decode cX8_best 0 = .ok (.iload_n 1, 1) := by decide +kernel
theorem dX8_best_1 : decode cX8_best 1 = .ok (.invokestatic 116, 3) := by decide +kernel
theorem dX8_best_4 : decode cX8_best 4 = .ok (.ifCond .eq 11, 3) := by decide +kernel
theorem dX8_best_7 : decode cX8_best 7 = .ok (.aload_n 0, 1) := by decide +kernel
theorem dX8_best_8 : decode cX8_best 8 = .ok (.iload_n 1, 1) := by decide +kernel
theorem dX8_best_9 : decode cX8_best 9 = .ok (.invokevirtual 204, 3) := by decide +kernel
theorem dX8_best_12 : decode cX8_best 12 = .ok (.goto 5, 3) := by decide +kernel
theorem dX8_best_15 : decode cX8_best 15 = .ok (.bipush (-2), 2) := by decide +kernel
theorem dX8_best_17 : decode cX8_best 17 = .ok (.ireturn, 1) := by decide +kernel
theorem dX8_hands_0 : decode cX8_hands 0 = .ok (.iconst 1, 1) := by decide +kernel
theorem dX8_hands_1 : decode cX8_hands 1 = .ok (.istore_n 1, 1) := by decide +kernel
theorem dX8_hands_2 : decode cX8_hands 2 = .ok (.iconst 1, 1) := by decide +kernel
theorem dX8_hands_3 : decode cX8_hands 3 = .ok (.istore_n 2, 1) := by decide +kernel
theorem dX8_hands_4 : decode cX8_hands 4 = .ok (.iconst 0, 1) := by decide +kernel
theorem dX8_hands_5 : decode cX8_hands 5 = .ok (.istore_n 3, 1) := by decide +kernel
theorem dX8_hands_6 : decode cX8_hands 6 = .ok (.iload_n 3, 1) := by decide +kernel
theorem dX8_hands_7 : decode cX8_hands 7 = .ok (.iconst 4, 1) := by decide +kernel
theorem dX8_hands_8 : decode cX8_hands 8 = .ok (.if_icmp .ge 82, 3) := by decide +kernel
theorem dX8_hands_11 : decode cX8_hands 11 = .ok (.aload_n 0, 1) := by decide +kernel
theorem dX8_hands_12 : decode cX8_hands 12 = .ok (.getfield 25, 3) := by decide +kernel
theorem dX8_hands_15 : decode cX8_hands 15 = .ok (.iconst 4, 1) := by decide +kernel
theorem dX8_hands_16 : decode cX8_hands 16 = .ok (.aload_n 0, 1) := by decide +kernel
theorem dX8_hands_17 : decode cX8_hands 17 = .ok (.getfield 43, 3) := by decide +kernel
theorem dX8_hands_20 : decode cX8_hands 20 = .ok (.iconst 1, 1) := by decide +kernel
theorem dX8_hands_21 : decode cX8_hands 21 = .ok (.iload_n 3, 1) := by decide +kernel
theorem dX8_hands_22 : decode cX8_hands 22 = .ok (.iadd, 1) := by decide +kernel
theorem dX8_hands_23 : decode cX8_hands 23 = .ok (.iaload, 1) := by decide +kernel
theorem dX8_hands_24 : decode cX8_hands 24 = .ok (.imul, 1) := by decide +kernel
theorem dX8_hands_25 : decode cX8_hands 25 = .ok (.iconst 3, 1) := by decide +kernel
theorem dX8_hands_26 : decode cX8_hands 26 = .ok (.iadd, 1) := by decide +kernel
theorem dX8_hands_27 : decode cX8_hands 27 = .ok (.iaload, 1) := by decide +kernel
theorem dX8_hands_28 : decode cX8_hands 28 = .ok (.istore 4, 2) := by decide +kernel
theorem dX8_hands_30 : decode cX8_hands 30 = .ok (.iload_n 1, 1) := by decide +kernel
theorem dX8_hands_31 : decode cX8_hands 31 = .ok (.ifCond .eq 24, 3) := by decide +kernel
theorem dX8_hands_34 : decode cX8_hands 34 = .ok (.iload 4, 2) := by decide +kernel
theorem dX8_hands_36 : decode cX8_hands 36 = .ok (.iload_n 3, 1) := by decide +kernel
theorem dX8_hands_37 : decode cX8_hands 37 = .ok (.iconst 2, 1) := by decide +kernel
theorem dX8_hands_38 : decode cX8_hands 38 = .ok (.irem, 1) := by decide +kernel
theorem dX8_hands_39 : decode cX8_hands 39 = .ok (.ifCond .ne 7, 3) := by decide +kernel
theorem dX8_hands_42 : decode cX8_hands 42 = .ok (.iconst 1, 1) := by decide +kernel
theorem dX8_hands_43 : decode cX8_hands 43 = .ok (.goto 4, 3) := by decide +kernel
theorem dX8_hands_46 : decode cX8_hands 46 = .ok (.iconst 2, 1) := by decide +kernel
theorem dX8_hands_47 : decode cX8_hands 47 = .ok (.iand, 1) := by decide +kernel
theorem dX8_hands_48 : decode cX8_hands 48 = .ok (.ifCond .eq 7, 3) := by decide +kernel
theorem dX8_hands_51 : decode cX8_hands 51 = .ok (.iconst 1, 1) := by decide +kernel
theorem dX8_hands_52 : decode cX8_hands 52 = .ok (.goto 4, 3) := by decide +kernel
theorem dX8_hands_55 : decode cX8_hands 55 = .ok (.iconst 0, 1) := by decide +kernel
theorem dX8_hands_56 : decode cX8_hands 56 = .ok (.istore_n 1, 1) := by decide +kernel
theorem dX8_hands_57 : decode cX8_hands 57 = .ok (.iload_n 2, 1) := by decide +kernel
theorem dX8_hands_58 : decode cX8_hands 58 = .ok (.ifCond .eq 24, 3) := by decide +kernel
theorem dX8_hands_61 : decode cX8_hands 61 = .ok (.iload 4, 2) := by decide +kernel
theorem dX8_hands_63 : decode cX8_hands 63 = .ok (.iload_n 3, 1) := by decide +kernel
theorem dX8_hands_64 : decode cX8_hands 64 = .ok (.iconst 2, 1) := by decide +kernel
theorem dX8_hands_65 : decode cX8_hands 65 = .ok (.irem, 1) := by decide +kernel
theorem dX8_hands_66 : decode cX8_hands 66 = .ok (.ifCond .ne 7, 3) := by decide +kernel
theorem dX8_hands_69 : decode cX8_hands 69 = .ok (.iconst 2, 1) := by decide +kernel
theorem dX8_hands_70 : decode cX8_hands 70 = .ok (.goto 4, 3) := by decide +kernel
theorem dX8_hands_73 : decode cX8_hands 73 = .ok (.iconst 1, 1) := by decide +kernel
theorem dX8_hands_74 : decode cX8_hands 74 = .ok (.iand, 1) := by decide +kernel
theorem dX8_hands_75 : decode cX8_hands 75 = .ok (.ifCond .eq 7, 3) := by decide +kernel
theorem dX8_hands_78 : decode cX8_hands 78 = .ok (.iconst 1, 1) := by decide +kernel
theorem dX8_hands_79 : decode cX8_hands 79 = .ok (.goto 4, 3) := by decide +kernel
theorem dX8_hands_82 : decode cX8_hands 82 = .ok (.iconst 0, 1) := by decide +kernel
theorem dX8_hands_83 : decode cX8_hands 83 = .ok (.istore_n 2, 1) := by decide +kernel
theorem dX8_hands_84 : decode cX8_hands 84 = .ok (.iinc 3 1, 3) := by decide +kernel
theorem dX8_hands_87 : decode cX8_hands 87 = .ok (.goto (-81), 3) := by decide +kernel
theorem dX8_hands_90 : decode cX8_hands 90 = .ok (.iload_n 1, 1) := by decide +kernel
theorem dX8_hands_91 : decode cX8_hands 91 = .ok (.ifCond .ne 7, 3) := by decide +kernel
theorem dX8_hands_94 : decode cX8_hands 94 = .ok (.iload_n 2, 1) := by decide +kernel
theorem dX8_hands_95 : decode cX8_hands 95 = .ok (.ifCond .eq 7, 3) := by decide +kernel
theorem dX8_hands_98 : decode cX8_hands 98 = .ok (.iconst 1, 1) := by decide +kernel
theorem dX8_hands_99 : decode cX8_hands 99 = .ok (.goto 4, 3) := by decide +kernel
theorem dX8_hands_102 : decode cX8_hands 102 = .ok (.iconst 0, 1) := by decide +kernel
theorem dX8_hands_103 : decode cX8_hands 103 = .ok (.ireturn, 1) := by decide +kernel
theorem dX8_looks_0 : decode cX8_looks 0 = .ok (.aload_n 0, 1) := by decide +kernel
theorem dX8_looks_1 : decode cX8_looks 1 = .ok (.invokevirtual 207, 3) := by decide +kernel
theorem dX8_looks_4 : decode cX8_looks 4 = .ok (.ifCond .ne 4, 3) := by decide +kernel
theorem dX8_looks_7 : decode cX8_looks 7 = .ok (.return_, 1) := by decide +kernel
theorem dX8_looks_8 : decode cX8_looks 8 = .ok (.aload_n 0, 1) := by decide +kernel
theorem dX8_looks_9 : decode cX8_looks 9 = .ok (.getfield 43, 3) := by decide +kernel
theorem dX8_looks_12 : decode cX8_looks 12 = .ok (.iconst 0, 1) := by decide +kernel
theorem dX8_looks_13 : decode cX8_looks 13 = .ok (.aload_n 0, 1) := by decide +kernel
theorem dX8_looks_14 : decode cX8_looks 14 = .ok (.aload_n 0, 1) := by decide +kernel
theorem dX8_looks_15 : decode cX8_looks 15 = .ok (.getfield 43, 3) := by decide +kernel
theorem dX8_looks_18 : decode cX8_looks 18 = .ok (.iconst 4, 1) := by decide +kernel
theorem dX8_looks_19 : decode cX8_looks 19 = .ok (.iaload, 1) := by decide +kernel
theorem dX8_looks_20 : decode cX8_looks 20 = .ok (.iconst 3, 1) := by decide +kernel
theorem dX8_looks_21 : decode cX8_looks 21 = .ok (.bipush 100, 2) := by decide +kernel
theorem dX8_looks_23 : decode cX8_looks 23 = .ok (.invokevirtual 133, 3) := by decide +kernel
theorem dX8_looks_26 : decode cX8_looks 26 = .ok (.iastore, 1) := by decide +kernel
theorem dX8_looks_27 : decode cX8_looks 27 = .ok (.iconst 0, 1) := by decide +kernel
theorem dX8_looks_28 : decode cX8_looks 28 = .ok (.istore_n 1, 1) := by decide +kernel
theorem dX8_looks_29 : decode cX8_looks 29 = .ok (.iload_n 1, 1) := by decide +kernel
theorem dX8_looks_30 : decode cX8_looks 30 = .ok (.iconst 3, 1) := by decide +kernel
theorem dX8_looks_31 : decode cX8_looks 31 = .ok (.if_icmp .ge 99, 3) := by decide +kernel
theorem dX8_looks_34 : decode cX8_looks 34 = .ok (.aload_n 0, 1) := by decide +kernel
theorem dX8_looks_35 : decode cX8_looks 35 = .ok (.aload_n 0, 1) := by decide +kernel
theorem dX8_looks_36 : decode cX8_looks 36 = .ok (.getfield 43, 3) := by decide +kernel
theorem dX8_looks_39 : decode cX8_looks 39 = .ok (.iconst 1, 1) := by decide +kernel
theorem dX8_looks_40 : decode cX8_looks 40 = .ok (.iload_n 1, 1) := by decide +kernel
theorem dX8_looks_41 : decode cX8_looks 41 = .ok (.iadd, 1) := by decide +kernel
theorem dX8_looks_42 : decode cX8_looks 42 = .ok (.iaload, 1) := by decide +kernel
theorem dX8_looks_43 : decode cX8_looks 43 = .ok (.aload_n 0, 1) := by decide +kernel
theorem dX8_looks_44 : decode cX8_looks 44 = .ok (.getfield 43, 3) := by decide +kernel
theorem dX8_looks_47 : decode cX8_looks 47 = .ok (.iconst 2, 1) := by decide +kernel
theorem dX8_looks_48 : decode cX8_looks 48 = .ok (.iload_n 1, 1) := by decide +kernel
theorem dX8_looks_49 : decode cX8_looks 49 = .ok (.iadd, 1) := by decide +kernel
theorem dX8_looks_50 : decode cX8_looks 50 = .ok (.iaload, 1) := by decide +kernel
theorem dX8_looks_51 : decode cX8_looks 51 = .ok (.iload_n 1, 1) := by decide +kernel
theorem dX8_looks_52 : decode cX8_looks 52 = .ok (.iconst 0, 1) := by decide +kernel
theorem dX8_looks_53 : decode cX8_looks 53 = .ok (.invokevirtual 201, 3) := by decide +kernel
theorem dX8_looks_56 : decode cX8_looks 56 = .ok (.istore_n 2, 1) := by decide +kernel
theorem dX8_looks_57 : decode cX8_looks 57 = .ok (.iload_n 2, 1) := by decide +kernel
theorem dX8_looks_58 : decode cX8_looks 58 = .ok (.iconst (-1), 1) := by decide +kernel
theorem dX8_looks_59 : decode cX8_looks 59 = .ok (.if_icmp .ne 4, 3) := by decide +kernel
theorem dX8_looks_62 : decode cX8_looks 62 = .ok (.return_, 1) := by decide +kernel
theorem dX8_looks_63 : decode cX8_looks 63 = .ok (.aload_n 0, 1) := by decide +kernel
theorem dX8_looks_64 : decode cX8_looks 64 = .ok (.getfield 43, 3) := by decide +kernel
theorem dX8_looks_67 : decode cX8_looks 67 = .ok (.iconst 5, 1) := by decide +kernel
theorem dX8_looks_68 : decode cX8_looks 68 = .ok (.iload_n 1, 1) := by decide +kernel
theorem dX8_looks_69 : decode cX8_looks 69 = .ok (.iadd, 1) := by decide +kernel
theorem dX8_looks_70 : decode cX8_looks 70 = .ok (.iload_n 2, 1) := by decide +kernel
theorem dX8_looks_71 : decode cX8_looks 71 = .ok (.iastore, 1) := by decide +kernel
theorem dX8_looks_72 : decode cX8_looks 72 = .ok (.aload_n 0, 1) := by decide +kernel
theorem dX8_looks_73 : decode cX8_looks 73 = .ok (.getfield 43, 3) := by decide +kernel
theorem dX8_looks_76 : decode cX8_looks 76 = .ok (.iconst 0, 1) := by decide +kernel
theorem dX8_looks_77 : decode cX8_looks 77 = .ok (.dup2, 1) := by decide +kernel
theorem dX8_looks_78 : decode cX8_looks 78 = .ok (.iaload, 1) := by decide +kernel
theorem dX8_looks_79 : decode cX8_looks 79 = .ok (.aload_n 0, 1) := by decide +kernel
theorem dX8_looks_80 : decode cX8_looks 80 = .ok (.aload_n 0, 1) := by decide +kernel
theorem dX8_looks_81 : decode cX8_looks 81 = .ok (.getfield 43, 3) := by decide +kernel
theorem dX8_looks_84 : decode cX8_looks 84 = .ok (.iconst 1, 1) := by decide +kernel
theorem dX8_looks_85 : decode cX8_looks 85 = .ok (.iload_n 1, 1) := by decide +kernel
theorem dX8_looks_86 : decode cX8_looks 86 = .ok (.iadd, 1) := by decide +kernel
theorem dX8_looks_87 : decode cX8_looks 87 = .ok (.iaload, 1) := by decide +kernel
theorem dX8_looks_88 : decode cX8_looks 88 = .ok (.iload_n 1, 1) := by decide +kernel
theorem dX8_looks_89 : decode cX8_looks 89 = .ok (.iload_n 2, 1) := by decide +kernel
theorem dX8_looks_90 : decode cX8_looks 90 = .ok (.iconst 0, 1) := by decide +kernel
theorem dX8_looks_91 : decode cX8_looks 91 = .ok (.invokevirtual 136, 3) := by decide +kernel
theorem dX8_looks_94 : decode cX8_looks 94 = .ok (.aload_n 0, 1) := by decide +kernel
theorem dX8_looks_95 : decode cX8_looks 95 = .ok (.aload_n 0, 1) := by decide +kernel
theorem dX8_looks_96 : decode cX8_looks 96 = .ok (.aload_n 0, 1) := by decide +kernel
theorem dX8_looks_97 : decode cX8_looks 97 = .ok (.getfield 43, 3) := by decide +kernel
theorem dX8_looks_100 : decode cX8_looks 100 = .ok (.iconst 1, 1) := by decide +kernel
theorem dX8_looks_101 : decode cX8_looks 101 = .ok (.iload_n 1, 1) := by decide +kernel
theorem dX8_looks_102 : decode cX8_looks 102 = .ok (.iadd, 1) := by decide +kernel
theorem dX8_looks_103 : decode cX8_looks 103 = .ok (.iaload, 1) := by decide +kernel
theorem dX8_looks_104 : decode cX8_looks 104 = .ok (.aload_n 0, 1) := by decide +kernel
theorem dX8_looks_105 : decode cX8_looks 105 = .ok (.getfield 43, 3) := by decide +kernel
theorem dX8_looks_108 : decode cX8_looks 108 = .ok (.iconst 2, 1) := by decide +kernel
theorem dX8_looks_109 : decode cX8_looks 109 = .ok (.iload_n 1, 1) := by decide +kernel
theorem dX8_looks_110 : decode cX8_looks 110 = .ok (.iadd, 1) := by decide +kernel
theorem dX8_looks_111 : decode cX8_looks 111 = .ok (.iaload, 1) := by decide +kernel
theorem dX8_looks_112 : decode cX8_looks 112 = .ok (.iload_n 1, 1) := by decide +kernel
theorem dX8_looks_113 : decode cX8_looks 113 = .ok (.iload_n 2, 1) := by decide +kernel
theorem dX8_looks_114 : decode cX8_looks 114 = .ok (.iconst 0, 1) := by decide +kernel
theorem dX8_looks_115 : decode cX8_looks 115 = .ok (.invokevirtual 140, 3) := by decide +kernel
theorem dX8_looks_118 : decode cX8_looks 118 = .ok (.invokevirtual 198, 3) := by decide +kernel
theorem dX8_looks_121 : decode cX8_looks 121 = .ok (.iadd, 1) := by decide +kernel
theorem dX8_looks_122 : decode cX8_looks 122 = .ok (.iadd, 1) := by decide +kernel
theorem dX8_looks_123 : decode cX8_looks 123 = .ok (.iastore, 1) := by decide +kernel
theorem dX8_looks_124 : decode cX8_looks 124 = .ok (.iinc 1 1, 3) := by decide +kernel
theorem dX8_looks_127 : decode cX8_looks 127 = .ok (.goto (-98), 3) := by decide +kernel
theorem dX8_looks_130 : decode cX8_looks 130 = .ok (.aload_n 0, 1) := by decide +kernel
theorem dX8_looks_131 : decode cX8_looks 131 = .ok (.getfield 40, 3) := by decide +kernel
theorem dX8_looks_134 : decode cX8_looks 134 = .ok (.iconst 0, 1) := by decide +kernel
theorem dX8_looks_135 : decode cX8_looks 135 = .ok (.iaload, 1) := by decide +kernel
theorem dX8_looks_136 : decode cX8_looks 136 = .ok (.iconst (-1), 1) := by decide +kernel
theorem dX8_looks_137 : decode cX8_looks 137 = .ok (.if_icmp .eq 18, 3) := by decide +kernel
theorem dX8_looks_140 : decode cX8_looks 140 = .ok (.aload_n 0, 1) := by decide +kernel
theorem dX8_looks_141 : decode cX8_looks 141 = .ok (.getfield 43, 3) := by decide +kernel
theorem dX8_looks_144 : decode cX8_looks 144 = .ok (.iconst 0, 1) := by decide +kernel
theorem dX8_looks_145 : decode cX8_looks 145 = .ok (.iaload, 1) := by decide +kernel
theorem dX8_looks_146 : decode cX8_looks 146 = .ok (.aload_n 0, 1) := by decide +kernel
theorem dX8_looks_147 : decode cX8_looks 147 = .ok (.getfield 40, 3) := by decide +kernel
theorem dX8_looks_150 : decode cX8_looks 150 = .ok (.iconst 0, 1) := by decide +kernel
theorem dX8_looks_151 : decode cX8_looks 151 = .ok (.iaload, 1) := by decide +kernel
theorem dX8_looks_152 : decode cX8_looks 152 = .ok (.if_icmp .ge 29, 3) := by decide +kernel
theorem dX8_looks_155 : decode cX8_looks 155 = .ok (.iconst 0, 1) := by decide +kernel
theorem dX8_looks_156 : decode cX8_looks 156 = .ok (.istore_n 1, 1) := by decide +kernel
theorem dX8_looks_157 : decode cX8_looks 157 = .ok (.iload_n 1, 1) := by decide +kernel
theorem dX8_looks_158 : decode cX8_looks 158 = .ok (.bipush 8, 2) := by decide +kernel
theorem dX8_looks_160 : decode cX8_looks 160 = .ok (.if_icmp .ge 21, 3) := by decide +kernel
theorem dX8_looks_163 : decode cX8_looks 163 = .ok (.aload_n 0, 1) := by decide +kernel
theorem dX8_looks_164 : decode cX8_looks 164 = .ok (.getfield 40, 3) := by decide +kernel
theorem dX8_looks_167 : decode cX8_looks 167 = .ok (.iload_n 1, 1) := by decide +kernel
theorem dX8_looks_168 : decode cX8_looks 168 = .ok (.aload_n 0, 1) := by decide +kernel
theorem dX8_looks_169 : decode cX8_looks 169 = .ok (.getfield 43, 3) := by decide +kernel
theorem dX8_looks_172 : decode cX8_looks 172 = .ok (.iload_n 1, 1) := by decide +kernel
theorem dX8_looks_173 : decode cX8_looks 173 = .ok (.iaload, 1) := by decide +kernel
theorem dX8_looks_174 : decode cX8_looks 174 = .ok (.iastore, 1) := by decide +kernel
theorem dX8_looks_175 : decode cX8_looks 175 = .ok (.iinc 1 1, 3) := by decide +kernel
theorem dX8_looks_178 : decode cX8_looks 178 = .ok (.goto (-21), 3) := by decide +kernel
theorem dX8_looks_181 : decode cX8_looks 181 = .ok (.return_, 1) := by decide +kernel
theorem dX8_orderOf_0 : decode cX8_orderOf 0 = .ok (.iconst 0, 1) := by decide +kernel
theorem dX8_orderOf_1 : decode cX8_orderOf 1 = .ok (.istore_n 3, 1) := by decide +kernel
theorem dX8_orderOf_2 : decode cX8_orderOf 2 = .ok (.iload_n 3, 1) := by decide +kernel
theorem dX8_orderOf_3 : decode cX8_orderOf 3 = .ok (.bipush 8, 2) := by decide +kernel
theorem dX8_orderOf_5 : decode cX8_orderOf 5 = .ok (.if_icmp .ge 16, 3) := by decide +kernel
theorem dX8_orderOf_8 : decode cX8_orderOf 8 = .ok (.aload_n 0, 1) := by decide +kernel
theorem dX8_orderOf_9 : decode cX8_orderOf 9 = .ok (.getfield 40, 3) := by decide +kernel
theorem dX8_orderOf_12 : decode cX8_orderOf 12 = .ok (.iload_n 3, 1) := by decide +kernel
theorem dX8_orderOf_13 : decode cX8_orderOf 13 = .ok (.iconst (-1), 1) := by decide +kernel
theorem dX8_orderOf_14 : decode cX8_orderOf 14 = .ok (.iastore, 1) := by decide +kernel
theorem dX8_orderOf_15 : decode cX8_orderOf 15 = .ok (.iinc 3 1, 3) := by decide +kernel
theorem dX8_orderOf_18 : decode cX8_orderOf 18 = .ok (.goto (-16), 3) := by decide +kernel
theorem dX8_orderOf_21 : decode cX8_orderOf 21 = .ok (.iconst 0, 1) := by decide +kernel
theorem dX8_orderOf_22 : decode cX8_orderOf 22 = .ok (.istore_n 3, 1) := by decide +kernel
theorem dX8_orderOf_23 : decode cX8_orderOf 23 = .ok (.iload_n 3, 1) := by decide +kernel
theorem dX8_orderOf_24 : decode cX8_orderOf 24 = .ok (.sipush 625, 3) := by decide +kernel
theorem dX8_orderOf_27 : decode cX8_orderOf 27 = .ok (.if_icmp .ge 110, 3) := by decide +kernel
theorem dX8_orderOf_30 : decode cX8_orderOf 30 = .ok (.iload_n 3, 1) := by decide +kernel
theorem dX8_orderOf_31 : decode cX8_orderOf 31 = .ok (.istore 4, 2) := by decide +kernel
theorem dX8_orderOf_33 : decode cX8_orderOf 33 = .ok (.iconst 0, 1) := by decide +kernel
theorem dX8_orderOf_34 : decode cX8_orderOf 34 = .ok (.istore 5, 2) := by decide +kernel
theorem dX8_orderOf_36 : decode cX8_orderOf 36 = .ok (.iconst 1, 1) := by decide +kernel
theorem dX8_orderOf_37 : decode cX8_orderOf 37 = .ok (.istore 6, 2) := by decide +kernel
theorem dX8_orderOf_39 : decode cX8_orderOf 39 = .ok (.iconst 3, 1) := by decide +kernel
theorem dX8_orderOf_40 : decode cX8_orderOf 40 = .ok (.istore 7, 2) := by decide +kernel
theorem dX8_orderOf_42 : decode cX8_orderOf 42 = .ok (.iload 7, 2) := by decide +kernel
theorem dX8_orderOf_44 : decode cX8_orderOf 44 = .ok (.ifCond .lt 78, 3) := by decide +kernel
theorem dX8_orderOf_47 : decode cX8_orderOf 47 = .ok (.iload 4, 2) := by decide +kernel
theorem dX8_orderOf_49 : decode cX8_orderOf 49 = .ok (.iconst 5, 1) := by decide +kernel
theorem dX8_orderOf_50 : decode cX8_orderOf 50 = .ok (.irem, 1) := by decide +kernel
theorem dX8_orderOf_51 : decode cX8_orderOf 51 = .ok (.istore 8, 2) := by decide +kernel
theorem dX8_orderOf_53 : decode cX8_orderOf 53 = .ok (.iload 4, 2) := by decide +kernel
theorem dX8_orderOf_55 : decode cX8_orderOf 55 = .ok (.iconst 5, 1) := by decide +kernel
theorem dX8_orderOf_56 : decode cX8_orderOf 56 = .ok (.idiv, 1) := by decide +kernel
theorem dX8_orderOf_57 : decode cX8_orderOf 57 = .ok (.istore 4, 2) := by decide +kernel
theorem dX8_orderOf_59 : decode cX8_orderOf 59 = .ok (.aload_n 0, 1) := by decide +kernel
theorem dX8_orderOf_60 : decode cX8_orderOf 60 = .ok (.getfield 43, 3) := by decide +kernel
theorem dX8_orderOf_63 : decode cX8_orderOf 63 = .ok (.iconst 1, 1) := by decide +kernel
theorem dX8_orderOf_64 : decode cX8_orderOf 64 = .ok (.iload 7, 2) := by decide +kernel
theorem dX8_orderOf_66 : decode cX8_orderOf 66 = .ok (.iadd, 1) := by decide +kernel
theorem dX8_orderOf_67 : decode cX8_orderOf 67 = .ok (.iload 8, 2) := by decide +kernel
theorem dX8_orderOf_69 : decode cX8_orderOf 69 = .ok (.iastore, 1) := by decide +kernel
theorem dX8_orderOf_70 : decode cX8_orderOf 70 = .ok (.iload 6, 2) := by decide +kernel
theorem dX8_orderOf_72 : decode cX8_orderOf 72 = .ok (.ifCond .eq 32, 3) := by decide +kernel
theorem dX8_orderOf_75 : decode cX8_orderOf 75 = .ok (.iload 8, 2) := by decide +kernel
theorem dX8_orderOf_77 : decode cX8_orderOf 77 = .ok (.aload_n 0, 1) := by decide +kernel
theorem dX8_orderOf_78 : decode cX8_orderOf 78 = .ok (.getfield 85, 3) := by decide +kernel
theorem dX8_orderOf_81 : decode cX8_orderOf 81 = .ok (.if_icmp .ge 23, 3) := by decide +kernel
theorem dX8_orderOf_84 : decode cX8_orderOf 84 = .ok (.iload 8, 2) := by decide +kernel
theorem dX8_orderOf_86 : decode cX8_orderOf 86 = .ok (.iload_n 1, 1) := by decide +kernel
theorem dX8_orderOf_87 : decode cX8_orderOf 87 = .ok (.if_icmp .eq 17, 3) := by decide +kernel
theorem dX8_orderOf_90 : decode cX8_orderOf 90 = .ok (.iload 5, 2) := by decide +kernel
theorem dX8_orderOf_92 : decode cX8_orderOf 92 = .ok (.iload 8, 2) := by decide +kernel
theorem dX8_orderOf_94 : decode cX8_orderOf 94 = .ok (.ishr, 1) := by decide +kernel
theorem dX8_orderOf_95 : decode cX8_orderOf 95 = .ok (.iconst 1, 1) := by decide +kernel
theorem dX8_orderOf_96 : decode cX8_orderOf 96 = .ok (.iand, 1) := by decide +kernel
theorem dX8_orderOf_97 : decode cX8_orderOf 97 = .ok (.ifCond .ne 7, 3) := by decide +kernel
theorem dX8_orderOf_100 : decode cX8_orderOf 100 = .ok (.iconst 1, 1) := by decide +kernel
theorem dX8_orderOf_101 : decode cX8_orderOf 101 = .ok (.goto 4, 3) := by decide +kernel
theorem dX8_orderOf_104 : decode cX8_orderOf 104 = .ok (.iconst 0, 1) := by decide +kernel
theorem dX8_orderOf_105 : decode cX8_orderOf 105 = .ok (.istore 6, 2) := by decide +kernel
theorem dX8_orderOf_107 : decode cX8_orderOf 107 = .ok (.iload 5, 2) := by decide +kernel
theorem dX8_orderOf_109 : decode cX8_orderOf 109 = .ok (.iconst 1, 1) := by decide +kernel
theorem dX8_orderOf_110 : decode cX8_orderOf 110 = .ok (.iload 8, 2) := by decide +kernel
theorem dX8_orderOf_112 : decode cX8_orderOf 112 = .ok (.ishl, 1) := by decide +kernel
theorem dX8_orderOf_113 : decode cX8_orderOf 113 = .ok (.ior, 1) := by decide +kernel
theorem dX8_orderOf_114 : decode cX8_orderOf 114 = .ok (.istore 5, 2) := by decide +kernel
theorem dX8_orderOf_116 : decode cX8_orderOf 116 = .ok (.iinc 7 (-1), 3) := by decide +kernel
theorem dX8_orderOf_119 : decode cX8_orderOf 119 = .ok (.goto (-77), 3) := by decide +kernel
theorem dX8_orderOf_122 : decode cX8_orderOf 122 = .ok (.iload 6, 2) := by decide +kernel
theorem dX8_orderOf_124 : decode cX8_orderOf 124 = .ok (.ifCond .eq 7, 3) := by decide +kernel
theorem dX8_orderOf_127 : decode cX8_orderOf 127 = .ok (.aload_n 0, 1) := by decide +kernel
theorem dX8_orderOf_128 : decode cX8_orderOf 128 = .ok (.invokevirtual 210, 3) := by decide +kernel
theorem dX8_orderOf_131 : decode cX8_orderOf 131 = .ok (.iinc 3 1, 3) := by decide +kernel
theorem dX8_orderOf_134 : decode cX8_orderOf 134 = .ok (.goto (-111), 3) := by decide +kernel
theorem dX8_orderOf_137 : decode cX8_orderOf 137 = .ok (.aload_n 0, 1) := by decide +kernel
theorem dX8_orderOf_138 : decode cX8_orderOf 138 = .ok (.getfield 40, 3) := by decide +kernel
theorem dX8_orderOf_141 : decode cX8_orderOf 141 = .ok (.iload_n 2, 1) := by decide +kernel
theorem dX8_orderOf_142 : decode cX8_orderOf 142 = .ok (.iaload, 1) := by decide +kernel
theorem dX8_orderOf_143 : decode cX8_orderOf 143 = .ok (.ireturn, 1) := by decide +kernel
theorem dX8_order_0 : decode cX8_order 0 = .ok (.aload_n 0, 1) := by decide +kernel
theorem dX8_order_1 : decode cX8_order 1 = .ok (.invokevirtual 101, 3) := by decide +kernel
theorem dX8_order_4 : decode cX8_order 4 = .ok (.pop, 1) := by decide +kernel
theorem dX8_order_5 : decode cX8_order 5 = .ok (.iload_n 1, 1) := by decide +kernel
theorem dX8_order_6 : decode cX8_order 6 = .ok (.i2l, 1) := by decide +kernel
theorem dX8_order_7 : decode cX8_order 7 = .ok (.ldc2_w 213, 3) := by decide +kernel
theorem dX8_order_10 : decode cX8_order 10 = .ok (.ldc2_w 107, 3) := by decide +kernel
theorem dX8_order_13 : decode cX8_order 13 = .ok (.invokestatic 48, 3) := by decide +kernel
theorem dX8_order_16 : decode cX8_order 16 = .ok (.ifCond .eq 24, 3) := by decide +kernel
theorem dX8_order_19 : decode cX8_order 19 = .ok (.iload_n 2, 1) := by decide +kernel
theorem dX8_order_20 : decode cX8_order 20 = .ok (.i2l, 1) := by decide +kernel
theorem dX8_order_21 : decode cX8_order 21 = .ok (.lconst 0, 1) := by decide +kernel
theorem dX8_order_22 : decode cX8_order 22 = .ok (.ldc2_w 215, 3) := by decide +kernel
theorem dX8_order_25 : decode cX8_order 25 = .ok (.invokestatic 48, 3) := by decide +kernel
theorem dX8_order_28 : decode cX8_order 28 = .ok (.ifCond .eq 12, 3) := by decide +kernel
theorem dX8_order_31 : decode cX8_order 31 = .ok (.aload_n 0, 1) := by decide +kernel
theorem dX8_order_32 : decode cX8_order 32 = .ok (.iload_n 1, 1) := by decide +kernel
theorem dX8_order_33 : decode cX8_order 33 = .ok (.iload_n 2, 1) := by decide +kernel
theorem dX8_order_34 : decode cX8_order 34 = .ok (.invokevirtual 217, 3) := by decide +kernel
theorem dX8_order_37 : decode cX8_order 37 = .ok (.goto 5, 3) := by decide +kernel
theorem dX8_order_40 : decode cX8_order 40 = .ok (.bipush (-2), 2) := by decide +kernel
theorem dX8_order_42 : decode cX8_order 42 = .ok (.ireturn, 1) := by decide +kernel
theorem dX8_blameNow_0 : decode cX8_blameNow 0 = .ok (.aload_n 0, 1) := by decide +kernel
theorem dX8_blameNow_1 : decode cX8_blameNow 1 = .ok (.invokevirtual 147, 3) := by decide +kernel
theorem dX8_blameNow_4 : decode cX8_blameNow 4 = .ok (.ifCond .ne 6, 3) := by decide +kernel
theorem dX8_blameNow_7 : decode cX8_blameNow 7 = .ok (.bipush (-3), 2) := by decide +kernel
theorem dX8_blameNow_9 : decode cX8_blameNow 9 = .ok (.ireturn, 1) := by decide +kernel
theorem dX8_blameNow_10 : decode cX8_blameNow 10 = .ok (.iconst 0, 1) := by decide +kernel
theorem dX8_blameNow_11 : decode cX8_blameNow 11 = .ok (.istore_n 3, 1) := by decide +kernel
theorem dX8_blameNow_12 : decode cX8_blameNow 12 = .ok (.iconst 0, 1) := by decide +kernel
theorem dX8_blameNow_13 : decode cX8_blameNow 13 = .ok (.istore 4, 2) := by decide +kernel
theorem dX8_blameNow_15 : decode cX8_blameNow 15 = .ok (.iload 4, 2) := by decide +kernel
theorem dX8_blameNow_17 : decode cX8_blameNow 17 = .ok (.iconst 5, 1) := by decide +kernel
theorem dX8_blameNow_18 : decode cX8_blameNow 18 = .ok (.if_icmp .ge 47, 3) := by decide +kernel
theorem dX8_blameNow_21 : decode cX8_blameNow 21 = .ok (.iload_n 3, 1) := by decide +kernel
theorem dX8_blameNow_22 : decode cX8_blameNow 22 = .ok (.aload_n 0, 1) := by decide +kernel
theorem dX8_blameNow_23 : decode cX8_blameNow 23 = .ok (.iload_n 1, 1) := by decide +kernel
theorem dX8_blameNow_24 : decode cX8_blameNow 24 = .ok (.aload_n 0, 1) := by decide +kernel
theorem dX8_blameNow_25 : decode cX8_blameNow 25 = .ok (.getfield 34, 3) := by decide +kernel
theorem dX8_blameNow_28 : decode cX8_blameNow 28 = .ok (.iload_n 1, 1) := by decide +kernel
theorem dX8_blameNow_29 : decode cX8_blameNow 29 = .ok (.iaload, 1) := by decide +kernel
theorem dX8_blameNow_30 : decode cX8_blameNow 30 = .ok (.iload 4, 2) := by decide +kernel
theorem dX8_blameNow_32 : decode cX8_blameNow 32 = .ok (.iconst 2, 1) := by decide +kernel
theorem dX8_blameNow_33 : decode cX8_blameNow 33 = .ok (.isub, 1) := by decide +kernel
theorem dX8_blameNow_34 : decode cX8_blameNow 34 = .ok (.aload_n 0, 1) := by decide +kernel
theorem dX8_blameNow_35 : decode cX8_blameNow 35 = .ok (.getfield 31, 3) := by decide +kernel
theorem dX8_blameNow_38 : decode cX8_blameNow 38 = .ok (.bipush 6, 2) := by decide +kernel
theorem dX8_blameNow_40 : decode cX8_blameNow 40 = .ok (.iaload, 1) := by decide +kernel
theorem dX8_blameNow_41 : decode cX8_blameNow 41 = .ok (.imul, 1) := by decide +kernel
theorem dX8_blameNow_42 : decode cX8_blameNow 42 = .ok (.invokevirtual 153, 3) := by decide +kernel
theorem dX8_blameNow_45 : decode cX8_blameNow 45 = .ok (.iload_n 2, 1) := by decide +kernel
theorem dX8_blameNow_46 : decode cX8_blameNow 46 = .ok (.if_icmp .ne 10, 3) := by decide +kernel
theorem dX8_blameNow_49 : decode cX8_blameNow 49 = .ok (.iconst 1, 1) := by decide +kernel
theorem dX8_blameNow_50 : decode cX8_blameNow 50 = .ok (.iload 4, 2) := by decide +kernel
theorem dX8_blameNow_52 : decode cX8_blameNow 52 = .ok (.ishl, 1) := by decide +kernel
theorem dX8_blameNow_53 : decode cX8_blameNow 53 = .ok (.goto 4, 3) := by decide +kernel
theorem dX8_blameNow_56 : decode cX8_blameNow 56 = .ok (.iconst 0, 1) := by decide +kernel
theorem dX8_blameNow_57 : decode cX8_blameNow 57 = .ok (.ior, 1) := by decide +kernel
theorem dX8_blameNow_58 : decode cX8_blameNow 58 = .ok (.istore_n 3, 1) := by decide +kernel
theorem dX8_blameNow_59 : decode cX8_blameNow 59 = .ok (.iinc 4 1, 3) := by decide +kernel
theorem dX8_blameNow_62 : decode cX8_blameNow 62 = .ok (.goto (-47), 3) := by decide +kernel
theorem dX8_blameNow_65 : decode cX8_blameNow 65 = .ok (.iload_n 3, 1) := by decide +kernel
theorem dX8_blameNow_66 : decode cX8_blameNow 66 = .ok (.ireturn, 1) := by decide +kernel
theorem dX8_blame_0 : decode cX8_blame 0 = .ok (.iload_n 1, 1) := by decide +kernel
theorem dX8_blame_1 : decode cX8_blame 1 = .ok (.invokestatic 116, 3) := by decide +kernel
theorem dX8_blame_4 : decode cX8_blame 4 = .ok (.ifCond .eq 28, 3) := by decide +kernel
theorem dX8_blame_7 : decode cX8_blame 7 = .ok (.iload_n 2, 1) := by decide +kernel
theorem dX8_blame_8 : decode cX8_blame 8 = .ok (.i2l, 1) := by decide +kernel
theorem dX8_blame_9 : decode cX8_blame 9 = .ok (.lconst 0, 1) := by decide +kernel
theorem dX8_blame_10 : decode cX8_blame 10 = .ok (.aload_n 0, 1) := by decide +kernel
theorem dX8_blame_11 : decode cX8_blame 11 = .ok (.getfield 31, 3) := by decide +kernel
theorem dX8_blame_14 : decode cX8_blame 14 = .ok (.iconst 0, 1) := by decide +kernel
theorem dX8_blame_15 : decode cX8_blame 15 = .ok (.iaload, 1) := by decide +kernel
theorem dX8_blame_16 : decode cX8_blame 16 = .ok (.i2l, 1) := by decide +kernel
theorem dX8_blame_17 : decode cX8_blame 17 = .ok (.invokestatic 48, 3) := by decide +kernel
theorem dX8_blame_20 : decode cX8_blame 20 = .ok (.ifCond .eq 12, 3) := by decide +kernel
theorem dX8_blame_23 : decode cX8_blame 23 = .ok (.aload_n 0, 1) := by decide +kernel
theorem dX8_blame_24 : decode cX8_blame 24 = .ok (.iload_n 1, 1) := by decide +kernel
theorem dX8_blame_25 : decode cX8_blame 25 = .ok (.iload_n 2, 1) := by decide +kernel
theorem dX8_blame_26 : decode cX8_blame 26 = .ok (.invokevirtual 220, 3) := by decide +kernel
theorem dX8_blame_29 : decode cX8_blame 29 = .ok (.goto 5, 3) := by decide +kernel
theorem dX8_blame_32 : decode cX8_blame 32 = .ok (.bipush (-2), 2) := by decide +kernel
theorem dX8_blame_34 : decode cX8_blame 34 = .ok (.ireturn, 1) := by decide +kernel
theorem dX8_slipByLot_0 : decode cX8_slipByLot 0 = .ok (.aload_n 0, 1) := by decide +kernel
theorem dX8_slipByLot_1 : decode cX8_slipByLot 1 = .ok (.ldc 223, 2) := by decide +kernel
theorem dX8_slipByLot_3 : decode cX8_slipByLot 3 = .ok (.aload_n 0, 1) := by decide +kernel
theorem dX8_slipByLot_4 : decode cX8_slipByLot 4 = .ok (.getfield 224, 3) := by decide +kernel
theorem dX8_slipByLot_7 : decode cX8_slipByLot 7 = .ok (.imul, 1) := by decide +kernel
theorem dX8_slipByLot_8 : decode cX8_slipByLot 8 = .ok (.sipush 12345, 3) := by decide +kernel
theorem dX8_slipByLot_11 : decode cX8_slipByLot 11 = .ok (.iadd, 1) := by decide +kernel
theorem dX8_slipByLot_12 : decode cX8_slipByLot 12 = .ok (.putfield 224, 3) := by decide +kernel
theorem dX8_slipByLot_15 : decode cX8_slipByLot 15 = .ok (.aload_n 0, 1) := by decide +kernel
theorem dX8_slipByLot_16 : decode cX8_slipByLot 16 = .ok (.getfield 224, 3) := by decide +kernel
theorem dX8_slipByLot_19 : decode cX8_slipByLot 19 = .ok (.bipush 16, 2) := by decide +kernel
theorem dX8_slipByLot_21 : decode cX8_slipByLot 21 = .ok (.iushr, 1) := by decide +kernel
theorem dX8_slipByLot_22 : decode cX8_slipByLot 22 = .ok (.bipush 16, 2) := by decide +kernel
theorem dX8_slipByLot_24 : decode cX8_slipByLot 24 = .ok (.irem, 1) := by decide +kernel
theorem dX8_slipByLot_25 : decode cX8_slipByLot 25 = .ok (.istore_n 1, 1) := by decide +kernel
theorem dX8_slipByLot_26 : decode cX8_slipByLot 26 = .ok (.iload_n 1, 1) := by decide +kernel
theorem dX8_slipByLot_27 : decode cX8_slipByLot 27 = .ok (.ifCond .ne 8, 3) := by decide +kernel
theorem dX8_slipByLot_30 : decode cX8_slipByLot 30 = .ok (.bipush (-2), 2) := by decide +kernel
theorem dX8_slipByLot_32 : decode cX8_slipByLot 32 = .ok (.goto 33, 3) := by decide +kernel
theorem dX8_slipByLot_35 : decode cX8_slipByLot 35 = .ok (.iload_n 1, 1) := by decide +kernel
theorem dX8_slipByLot_36 : decode cX8_slipByLot 36 = .ok (.iconst 5, 1) := by decide +kernel
theorem dX8_slipByLot_37 : decode cX8_slipByLot 37 = .ok (.if_icmp .ge 7, 3) := by decide +kernel
theorem dX8_slipByLot_40 : decode cX8_slipByLot 40 = .ok (.iconst (-1), 1) := by decide +kernel
theorem dX8_slipByLot_41 : decode cX8_slipByLot 41 = .ok (.goto 24, 3) := by decide +kernel
theorem dX8_slipByLot_44 : decode cX8_slipByLot 44 = .ok (.iload_n 1, 1) := by decide +kernel
theorem dX8_slipByLot_45 : decode cX8_slipByLot 45 = .ok (.bipush 11, 2) := by decide +kernel
theorem dX8_slipByLot_47 : decode cX8_slipByLot 47 = .ok (.if_icmp .ge 7, 3) := by decide +kernel
theorem dX8_slipByLot_50 : decode cX8_slipByLot 50 = .ok (.iconst 0, 1) := by decide +kernel
theorem dX8_slipByLot_51 : decode cX8_slipByLot 51 = .ok (.goto 14, 3) := by decide +kernel
theorem dX8_slipByLot_54 : decode cX8_slipByLot 54 = .ok (.iload_n 1, 1) := by decide +kernel
theorem dX8_slipByLot_55 : decode cX8_slipByLot 55 = .ok (.bipush 15, 2) := by decide +kernel
theorem dX8_slipByLot_57 : decode cX8_slipByLot 57 = .ok (.if_icmp .ge 7, 3) := by decide +kernel
theorem dX8_slipByLot_60 : decode cX8_slipByLot 60 = .ok (.iconst 1, 1) := by decide +kernel
theorem dX8_slipByLot_61 : decode cX8_slipByLot 61 = .ok (.goto 4, 3) := by decide +kernel
theorem dX8_slipByLot_64 : decode cX8_slipByLot 64 = .ok (.iconst 2, 1) := by decide +kernel
theorem dX8_slipByLot_65 : decode cX8_slipByLot 65 = .ok (.istore_n 2, 1) := by decide +kernel
theorem dX8_slipByLot_66 : decode cX8_slipByLot 66 = .ok (.iload_n 2, 1) := by decide +kernel
theorem dX8_slipByLot_67 : decode cX8_slipByLot 67 = .ok (.aload_n 0, 1) := by decide +kernel
theorem dX8_slipByLot_68 : decode cX8_slipByLot 68 = .ok (.getfield 31, 3) := by decide +kernel
theorem dX8_slipByLot_71 : decode cX8_slipByLot 71 = .ok (.bipush 6, 2) := by decide +kernel
theorem dX8_slipByLot_73 : decode cX8_slipByLot 73 = .ok (.iaload, 1) := by decide +kernel
theorem dX8_slipByLot_74 : decode cX8_slipByLot 74 = .ok (.imul, 1) := by decide +kernel
theorem dX8_slipByLot_75 : decode cX8_slipByLot 75 = .ok (.ireturn, 1) := by decide +kernel
theorem dX8_raceOn_0 : decode cX8_raceOn 0 = .ok (.aload_n 0, 1) := by decide +kernel
theorem dX8_raceOn_1 : decode cX8_raceOn 1 = .ok (.aload_n 0, 1) := by decide +kernel
theorem dX8_raceOn_2 : decode cX8_raceOn 2 = .ok (.getfield 28, 3) := by decide +kernel
theorem dX8_raceOn_5 : decode cX8_raceOn 5 = .ok (.iconst 3, 1) := by decide +kernel
theorem dX8_raceOn_6 : decode cX8_raceOn 6 = .ok (.iaload, 1) := by decide +kernel
theorem dX8_raceOn_7 : decode cX8_raceOn 7 = .ok (.iconst 3, 1) := by decide +kernel
theorem dX8_raceOn_8 : decode cX8_raceOn 8 = .ok (.bipush 100, 2) := by decide +kernel
theorem dX8_raceOn_10 : decode cX8_raceOn 10 = .ok (.invokevirtual 133, 3) := by decide +kernel
theorem dX8_raceOn_13 : decode cX8_raceOn 13 = .ok (.istore_n 1, 1) := by decide +kernel
theorem dX8_raceOn_14 : decode cX8_raceOn 14 = .ok (.iconst 0, 1) := by decide +kernel
theorem dX8_raceOn_15 : decode cX8_raceOn 15 = .ok (.istore_n 2, 1) := by decide +kernel
theorem dX8_raceOn_16 : decode cX8_raceOn 16 = .ok (.iconst 0, 1) := by decide +kernel
theorem dX8_raceOn_17 : decode cX8_raceOn 17 = .ok (.istore_n 3, 1) := by decide +kernel
theorem dX8_raceOn_18 : decode cX8_raceOn 18 = .ok (.iload_n 3, 1) := by decide +kernel
theorem dX8_raceOn_19 : decode cX8_raceOn 19 = .ok (.iconst 3, 1) := by decide +kernel
theorem dX8_raceOn_20 : decode cX8_raceOn 20 = .ok (.if_icmp .ge 75, 3) := by decide +kernel
theorem dX8_raceOn_23 : decode cX8_raceOn 23 = .ok (.aload_n 0, 1) := by decide +kernel
theorem dX8_raceOn_24 : decode cX8_raceOn 24 = .ok (.invokevirtual 227, 3) := by decide +kernel
theorem dX8_raceOn_27 : decode cX8_raceOn 27 = .ok (.istore 4, 2) := by decide +kernel
theorem dX8_raceOn_29 : decode cX8_raceOn 29 = .ok (.aload_n 0, 1) := by decide +kernel
theorem dX8_raceOn_30 : decode cX8_raceOn 30 = .ok (.iload_n 3, 1) := by decide +kernel
theorem dX8_raceOn_31 : decode cX8_raceOn 31 = .ok (.aload_n 0, 1) := by decide +kernel
theorem dX8_raceOn_32 : decode cX8_raceOn 32 = .ok (.getfield 34, 3) := by decide +kernel
theorem dX8_raceOn_35 : decode cX8_raceOn 35 = .ok (.iload_n 3, 1) := by decide +kernel
theorem dX8_raceOn_36 : decode cX8_raceOn 36 = .ok (.iaload, 1) := by decide +kernel
theorem dX8_raceOn_37 : decode cX8_raceOn 37 = .ok (.iload 4, 2) := by decide +kernel
theorem dX8_raceOn_39 : decode cX8_raceOn 39 = .ok (.invokevirtual 153, 3) := by decide +kernel
theorem dX8_raceOn_42 : decode cX8_raceOn 42 = .ok (.istore 5, 2) := by decide +kernel
theorem dX8_raceOn_44 : decode cX8_raceOn 44 = .ok (.iload_n 2, 1) := by decide +kernel
theorem dX8_raceOn_45 : decode cX8_raceOn 45 = .ok (.ifCond .ne 9, 3) := by decide +kernel
theorem dX8_raceOn_48 : decode cX8_raceOn 48 = .ok (.iload 5, 2) := by decide +kernel
theorem dX8_raceOn_50 : decode cX8_raceOn 50 = .ok (.iconst (-1), 1) := by decide +kernel
theorem dX8_raceOn_51 : decode cX8_raceOn 51 = .ok (.if_icmp .ne 7, 3) := by decide +kernel
theorem dX8_raceOn_54 : decode cX8_raceOn 54 = .ok (.iconst 1, 1) := by decide +kernel
theorem dX8_raceOn_55 : decode cX8_raceOn 55 = .ok (.goto 4, 3) := by decide +kernel
theorem dX8_raceOn_58 : decode cX8_raceOn 58 = .ok (.iconst 0, 1) := by decide +kernel
theorem dX8_raceOn_59 : decode cX8_raceOn 59 = .ok (.istore_n 2, 1) := by decide +kernel
theorem dX8_raceOn_60 : decode cX8_raceOn 60 = .ok (.iload_n 1, 1) := by decide +kernel
theorem dX8_raceOn_61 : decode cX8_raceOn 61 = .ok (.aload_n 0, 1) := by decide +kernel
theorem dX8_raceOn_62 : decode cX8_raceOn 62 = .ok (.aload_n 0, 1) := by decide +kernel
theorem dX8_raceOn_63 : decode cX8_raceOn 63 = .ok (.getfield 28, 3) := by decide +kernel
theorem dX8_raceOn_66 : decode cX8_raceOn 66 = .ok (.iload_n 3, 1) := by decide +kernel
theorem dX8_raceOn_67 : decode cX8_raceOn 67 = .ok (.iaload, 1) := by decide +kernel
theorem dX8_raceOn_68 : decode cX8_raceOn 68 = .ok (.iload_n 3, 1) := by decide +kernel
theorem dX8_raceOn_69 : decode cX8_raceOn 69 = .ok (.aload_n 0, 1) := by decide +kernel
theorem dX8_raceOn_70 : decode cX8_raceOn 70 = .ok (.getfield 34, 3) := by decide +kernel
theorem dX8_raceOn_73 : decode cX8_raceOn 73 = .ok (.iload_n 3, 1) := by decide +kernel
theorem dX8_raceOn_74 : decode cX8_raceOn 74 = .ok (.iaload, 1) := by decide +kernel
theorem dX8_raceOn_75 : decode cX8_raceOn 75 = .ok (.iload 4, 2) := by decide +kernel
theorem dX8_raceOn_77 : decode cX8_raceOn 77 = .ok (.invokevirtual 136, 3) := by decide +kernel
theorem dX8_raceOn_80 : decode cX8_raceOn 80 = .ok (.aload_n 0, 1) := by decide +kernel
theorem dX8_raceOn_81 : decode cX8_raceOn 81 = .ok (.iload 5, 2) := by decide +kernel
theorem dX8_raceOn_83 : decode cX8_raceOn 83 = .ok (.invokevirtual 198, 3) := by decide +kernel
theorem dX8_raceOn_86 : decode cX8_raceOn 86 = .ok (.iadd, 1) := by decide +kernel
theorem dX8_raceOn_87 : decode cX8_raceOn 87 = .ok (.iadd, 1) := by decide +kernel
theorem dX8_raceOn_88 : decode cX8_raceOn 88 = .ok (.istore_n 1, 1) := by decide +kernel
theorem dX8_raceOn_89 : decode cX8_raceOn 89 = .ok (.iinc 3 1, 3) := by decide +kernel
theorem dX8_raceOn_92 : decode cX8_raceOn 92 = .ok (.goto (-74), 3) := by decide +kernel
theorem dX8_raceOn_95 : decode cX8_raceOn 95 = .ok (.iload_n 2, 1) := by decide +kernel
theorem dX8_raceOn_96 : decode cX8_raceOn 96 = .ok (.ifCond .eq 7, 3) := by decide +kernel
theorem dX8_raceOn_99 : decode cX8_raceOn 99 = .ok (.iconst (-1), 1) := by decide +kernel
theorem dX8_raceOn_100 : decode cX8_raceOn 100 = .ok (.goto 4, 3) := by decide +kernel
theorem dX8_raceOn_103 : decode cX8_raceOn 103 = .ok (.iload_n 1, 1) := by decide +kernel
theorem dX8_raceOn_104 : decode cX8_raceOn 104 = .ok (.ireturn, 1) := by decide +kernel
theorem dX8_lot_0 : decode cX8_lot 0 = .ok (.aload_n 0, 1) := by decide +kernel
theorem dX8_lot_1 : decode cX8_lot 1 = .ok (.invokevirtual 147, 3) := by decide +kernel
theorem dX8_lot_4 : decode cX8_lot 4 = .ok (.ifCond .ne 6, 3) := by decide +kernel
theorem dX8_lot_7 : decode cX8_lot 7 = .ok (.bipush (-3), 2) := by decide +kernel
theorem dX8_lot_9 : decode cX8_lot 9 = .ok (.ireturn, 1) := by decide +kernel
theorem dX8_lot_10 : decode cX8_lot 10 = .ok (.aload_n 0, 1) := by decide +kernel
theorem dX8_lot_11 : decode cX8_lot 11 = .ok (.iload_n 1, 1) := by decide +kernel
theorem dX8_lot_12 : decode cX8_lot 12 = .ok (.putfield 224, 3) := by decide +kernel
theorem dX8_lot_15 : decode cX8_lot 15 = .ok (.aload_n 0, 1) := by decide +kernel
theorem dX8_lot_16 : decode cX8_lot 16 = .ok (.invokevirtual 230, 3) := by decide +kernel
theorem dX8_lot_19 : decode cX8_lot 19 = .ok (.ireturn, 1) := by decide +kernel
theorem dX8_racesNow_0 : decode cX8_racesNow 0 = .ok (.aload_n 0, 1) := by decide +kernel
theorem dX8_racesNow_1 : decode cX8_racesNow 1 = .ok (.invokevirtual 147, 3) := by decide +kernel
theorem dX8_racesNow_4 : decode cX8_racesNow 4 = .ok (.ifCond .ne 6, 3) := by decide +kernel
theorem dX8_racesNow_7 : decode cX8_racesNow 7 = .ok (.bipush (-3), 2) := by decide +kernel
theorem dX8_racesNow_9 : decode cX8_racesNow 9 = .ok (.ireturn, 1) := by decide +kernel
theorem dX8_racesNow_10 : decode cX8_racesNow 10 = .ok (.aload_n 0, 1) := by decide +kernel
theorem dX8_racesNow_11 : decode cX8_racesNow 11 = .ok (.iload_n 1, 1) := by decide +kernel
theorem dX8_racesNow_12 : decode cX8_racesNow 12 = .ok (.putfield 224, 3) := by decide +kernel
theorem dX8_racesNow_15 : decode cX8_racesNow 15 = .ok (.iconst 0, 1) := by decide +kernel
theorem dX8_racesNow_16 : decode cX8_racesNow 16 = .ok (.istore 4, 2) := by decide +kernel
theorem dX8_racesNow_18 : decode cX8_racesNow 18 = .ok (.iconst 0, 1) := by decide +kernel
theorem dX8_racesNow_19 : decode cX8_racesNow 19 = .ok (.istore 5, 2) := by decide +kernel
theorem dX8_racesNow_21 : decode cX8_racesNow 21 = .ok (.iload 5, 2) := by decide +kernel
theorem dX8_racesNow_23 : decode cX8_racesNow 23 = .ok (.iload_n 2, 1) := by decide +kernel
theorem dX8_racesNow_24 : decode cX8_racesNow 24 = .ok (.if_icmp .ge 33, 3) := by decide +kernel
theorem dX8_racesNow_27 : decode cX8_racesNow 27 = .ok (.iload 4, 2) := by decide +kernel
theorem dX8_racesNow_29 : decode cX8_racesNow 29 = .ok (.aload_n 0, 1) := by decide +kernel
theorem dX8_racesNow_30 : decode cX8_racesNow 30 = .ok (.invokevirtual 230, 3) := by decide +kernel
theorem dX8_racesNow_33 : decode cX8_racesNow 33 = .ok (.i2l, 1) := by decide +kernel
theorem dX8_racesNow_34 : decode cX8_racesNow 34 = .ok (.lconst 0, 1) := by decide +kernel
theorem dX8_racesNow_35 : decode cX8_racesNow 35 = .ok (.iload_n 3, 1) := by decide +kernel
theorem dX8_racesNow_36 : decode cX8_racesNow 36 = .ok (.i2l, 1) := by decide +kernel
theorem dX8_racesNow_37 : decode cX8_racesNow 37 = .ok (.invokestatic 48, 3) := by decide +kernel
theorem dX8_racesNow_40 : decode cX8_racesNow 40 = .ok (.ifCond .eq 7, 3) := by decide +kernel
theorem dX8_racesNow_43 : decode cX8_racesNow 43 = .ok (.iconst 1, 1) := by decide +kernel
theorem dX8_racesNow_44 : decode cX8_racesNow 44 = .ok (.goto 4, 3) := by decide +kernel
theorem dX8_racesNow_47 : decode cX8_racesNow 47 = .ok (.iconst 0, 1) := by decide +kernel
theorem dX8_racesNow_48 : decode cX8_racesNow 48 = .ok (.iadd, 1) := by decide +kernel
theorem dX8_racesNow_49 : decode cX8_racesNow 49 = .ok (.istore 4, 2) := by decide +kernel
theorem dX8_racesNow_51 : decode cX8_racesNow 51 = .ok (.iinc 5 1, 3) := by decide +kernel
theorem dX8_racesNow_54 : decode cX8_racesNow 54 = .ok (.goto (-33), 3) := by decide +kernel
theorem dX8_racesNow_57 : decode cX8_racesNow 57 = .ok (.iload 4, 2) := by decide +kernel
theorem dX8_racesNow_59 : decode cX8_racesNow 59 = .ok (.ireturn, 1) := by decide +kernel
theorem dX8_races_0 : decode cX8_races 0 = .ok (.iload_n 2, 1) := by decide +kernel
theorem dX8_races_1 : decode cX8_races 1 = .ok (.i2l, 1) := by decide +kernel
theorem dX8_races_2 : decode cX8_races 2 = .ok (.lconst 0, 1) := by decide +kernel
theorem dX8_races_3 : decode cX8_races 3 = .ok (.ldc2_w 123, 3) := by decide +kernel
theorem dX8_races_6 : decode cX8_races 6 = .ok (.invokestatic 48, 3) := by decide +kernel
theorem dX8_races_9 : decode cX8_races 9 = .ok (.ifCond .eq 25, 3) := by decide +kernel
theorem dX8_races_12 : decode cX8_races 12 = .ok (.iload_n 3, 1) := by decide +kernel
theorem dX8_races_13 : decode cX8_races 13 = .ok (.i2l, 1) := by decide +kernel
theorem dX8_races_14 : decode cX8_races 14 = .ok (.lconst 0, 1) := by decide +kernel
theorem dX8_races_15 : decode cX8_races 15 = .ok (.ldc2_w 233, 3) := by decide +kernel
theorem dX8_races_18 : decode cX8_races 18 = .ok (.invokestatic 48, 3) := by decide +kernel
theorem dX8_races_21 : decode cX8_races 21 = .ok (.ifCond .eq 13, 3) := by decide +kernel
theorem dX8_races_24 : decode cX8_races 24 = .ok (.aload_n 0, 1) := by decide +kernel
theorem dX8_races_25 : decode cX8_races 25 = .ok (.iload_n 1, 1) := by decide +kernel
theorem dX8_races_26 : decode cX8_races 26 = .ok (.iload_n 2, 1) := by decide +kernel
theorem dX8_races_27 : decode cX8_races 27 = .ok (.iload_n 3, 1) := by decide +kernel
theorem dX8_races_28 : decode cX8_races 28 = .ok (.invokevirtual 235, 3) := by decide +kernel
theorem dX8_races_31 : decode cX8_races 31 = .ok (.goto 5, 3) := by decide +kernel
theorem dX8_races_34 : decode cX8_races 34 = .ok (.bipush (-2), 2) := by decide +kernel
theorem dX8_races_36 : decode cX8_races 36 = .ok (.ireturn, 1) := by decide +kernel
theorem dX8_write_0 : decode cX8_write 0 = .ok (.iload_n 1, 1) := by decide +kernel
theorem dX8_write_1 : decode cX8_write 1 = .ok (.invokestatic 58, 3) := by decide +kernel
theorem dX8_write_4 : decode cX8_write 4 = .ok (.ifCond .ne 6, 3) := by decide +kernel
theorem dX8_write_7 : decode cX8_write 7 = .ok (.bipush (-2), 2) := by decide +kernel
theorem dX8_write_9 : decode cX8_write 9 = .ok (.ireturn, 1) := by decide +kernel
theorem dX8_write_10 : decode cX8_write 10 = .ok (.aload_n 0, 1) := by decide +kernel
theorem dX8_write_11 : decode cX8_write 11 = .ok (.getfield 7, 3) := by decide +kernel
theorem dX8_write_14 : decode cX8_write 14 = .ok (.iload_n 1, 1) := by decide +kernel
theorem dX8_write_15 : decode cX8_write 15 = .ok (.iaload, 1) := by decide +kernel
theorem dX8_write_16 : decode cX8_write 16 = .ok (.ifCond .ge 9, 3) := by decide +kernel
theorem dX8_write_19 : decode cX8_write 19 = .ok (.aload_n 0, 1) := by decide +kernel
theorem dX8_write_20 : decode cX8_write 20 = .ok (.iconst 1, 1) := by decide +kernel
theorem dX8_write_21 : decode cX8_write 21 = .ok (.invokevirtual 64, 3) := by decide +kernel
theorem dX8_write_24 : decode cX8_write 24 = .ok (.ireturn, 1) := by decide +kernel
theorem dX8_write_25 : decode cX8_write 25 = .ok (.aload_n 0, 1) := by decide +kernel
theorem dX8_write_26 : decode cX8_write 26 = .ok (.invokevirtual 147, 3) := by decide +kernel
theorem dX8_write_29 : decode cX8_write 29 = .ok (.ifCond .ne 6, 3) := by decide +kernel
theorem dX8_write_32 : decode cX8_write 32 = .ok (.bipush (-3), 2) := by decide +kernel
theorem dX8_write_34 : decode cX8_write 34 = .ok (.ireturn, 1) := by decide +kernel
theorem dX8_write_35 : decode cX8_write 35 = .ok (.aload_n 0, 1) := by decide +kernel
theorem dX8_write_36 : decode cX8_write 36 = .ok (.getfield 13, 3) := by decide +kernel
theorem dX8_write_39 : decode cX8_write 39 = .ok (.iload_n 1, 1) := by decide +kernel
theorem dX8_write_40 : decode cX8_write 40 = .ok (.iaload, 1) := by decide +kernel
theorem dX8_write_41 : decode cX8_write 41 = .ok (.iconst 4, 1) := by decide +kernel
theorem dX8_write_42 : decode cX8_write 42 = .ok (.invokestatic 128, 3) := by decide +kernel
theorem dX8_write_45 : decode cX8_write 45 = .ok (.istore_n 2, 1) := by decide +kernel
theorem dX8_write_46 : decode cX8_write 46 = .ok (.iconst 0, 1) := by decide +kernel
theorem dX8_write_47 : decode cX8_write 47 = .ok (.istore_n 3, 1) := by decide +kernel
theorem dX8_write_48 : decode cX8_write 48 = .ok (.iload_n 3, 1) := by decide +kernel
theorem dX8_write_49 : decode cX8_write 49 = .ok (.iload_n 2, 1) := by decide +kernel
theorem dX8_write_50 : decode cX8_write 50 = .ok (.if_icmp .ge 34, 3) := by decide +kernel
theorem dX8_write_53 : decode cX8_write 53 = .ok (.aload_n 0, 1) := by decide +kernel
theorem dX8_write_54 : decode cX8_write 54 = .ok (.getfield 16, 3) := by decide +kernel
theorem dX8_write_57 : decode cX8_write 57 = .ok (.bipush 60, 2) := by decide +kernel
theorem dX8_write_59 : decode cX8_write 59 = .ok (.iload_n 1, 1) := by decide +kernel
theorem dX8_write_60 : decode cX8_write 60 = .ok (.imul, 1) := by decide +kernel
theorem dX8_write_61 : decode cX8_write 61 = .ok (.iload_n 3, 1) := by decide +kernel
theorem dX8_write_62 : decode cX8_write 62 = .ok (.iadd, 1) := by decide +kernel
theorem dX8_write_63 : decode cX8_write 63 = .ok (.aload_n 0, 1) := by decide +kernel
theorem dX8_write_64 : decode cX8_write 64 = .ok (.getfield 7, 3) := by decide +kernel
theorem dX8_write_67 : decode cX8_write 67 = .ok (.iload_n 1, 1) := by decide +kernel
theorem dX8_write_68 : decode cX8_write 68 = .ok (.iaload, 1) := by decide +kernel
theorem dX8_write_69 : decode cX8_write 69 = .ok (.aload_n 0, 1) := by decide +kernel
theorem dX8_write_70 : decode cX8_write 70 = .ok (.iload_n 3, 1) := by decide +kernel
theorem dX8_write_71 : decode cX8_write 71 = .ok (.invokevirtual 165, 3) := by decide +kernel
theorem dX8_write_74 : decode cX8_write 74 = .ok (.invokestatic 72, 3) := by decide +kernel
theorem dX8_write_77 : decode cX8_write 77 = .ok (.iastore, 1) := by decide +kernel
theorem dX8_write_78 : decode cX8_write 78 = .ok (.iinc 3 1, 3) := by decide +kernel
theorem dX8_write_81 : decode cX8_write 81 = .ok (.goto (-33), 3) := by decide +kernel
theorem dX8_write_84 : decode cX8_write 84 = .ok (.iload_n 2, 1) := by decide +kernel
theorem dX8_write_85 : decode cX8_write 85 = .ok (.ireturn, 1) := by decide +kernel
theorem dX8_unlike_0 : decode cX8_unlike 0 = .ok (.iconst 0, 1) := by decide +kernel
theorem dX8_unlike_1 : decode cX8_unlike 1 = .ok (.istore_n 1, 1) := by decide +kernel
theorem dX8_unlike_2 : decode cX8_unlike 2 = .ok (.iconst 0, 1) := by decide +kernel
theorem dX8_unlike_3 : decode cX8_unlike 3 = .ok (.istore_n 2, 1) := by decide +kernel
theorem dX8_unlike_4 : decode cX8_unlike 4 = .ok (.iload_n 2, 1) := by decide +kernel
theorem dX8_unlike_5 : decode cX8_unlike 5 = .ok (.iconst 4, 1) := by decide +kernel
theorem dX8_unlike_6 : decode cX8_unlike 6 = .ok (.if_icmp .ge 20, 3) := by decide +kernel
theorem dX8_unlike_9 : decode cX8_unlike 9 = .ok (.iload_n 1, 1) := by decide +kernel
theorem dX8_unlike_10 : decode cX8_unlike 10 = .ok (.iconst 1, 1) := by decide +kernel
theorem dX8_unlike_11 : decode cX8_unlike 11 = .ok (.aload_n 0, 1) := by decide +kernel
theorem dX8_unlike_12 : decode cX8_unlike 12 = .ok (.getfield 28, 3) := by decide +kernel
theorem dX8_unlike_15 : decode cX8_unlike 15 = .ok (.iload_n 2, 1) := by decide +kernel
theorem dX8_unlike_16 : decode cX8_unlike 16 = .ok (.iaload, 1) := by decide +kernel
theorem dX8_unlike_17 : decode cX8_unlike 17 = .ok (.ishl, 1) := by decide +kernel
theorem dX8_unlike_18 : decode cX8_unlike 18 = .ok (.ior, 1) := by decide +kernel
theorem dX8_unlike_19 : decode cX8_unlike 19 = .ok (.istore_n 1, 1) := by decide +kernel
theorem dX8_unlike_20 : decode cX8_unlike 20 = .ok (.iinc 2 1, 3) := by decide +kernel
theorem dX8_unlike_23 : decode cX8_unlike 23 = .ok (.goto (-19), 3) := by decide +kernel
theorem dX8_unlike_26 : decode cX8_unlike 26 = .ok (.iconst 0, 1) := by decide +kernel
theorem dX8_unlike_27 : decode cX8_unlike 27 = .ok (.istore_n 2, 1) := by decide +kernel
theorem dX8_unlike_28 : decode cX8_unlike 28 = .ok (.iload_n 1, 1) := by decide +kernel
theorem dX8_unlike_29 : decode cX8_unlike 29 = .ok (.istore_n 3, 1) := by decide +kernel
theorem dX8_unlike_30 : decode cX8_unlike 30 = .ok (.iload_n 3, 1) := by decide +kernel
theorem dX8_unlike_31 : decode cX8_unlike 31 = .ok (.ifCond .eq 15, 3) := by decide +kernel
theorem dX8_unlike_34 : decode cX8_unlike 34 = .ok (.iinc 2 1, 3) := by decide +kernel
theorem dX8_unlike_37 : decode cX8_unlike 37 = .ok (.iload_n 3, 1) := by decide +kernel
theorem dX8_unlike_38 : decode cX8_unlike 38 = .ok (.iload_n 3, 1) := by decide +kernel
theorem dX8_unlike_39 : decode cX8_unlike 39 = .ok (.iconst 1, 1) := by decide +kernel
theorem dX8_unlike_40 : decode cX8_unlike 40 = .ok (.isub, 1) := by decide +kernel
theorem dX8_unlike_41 : decode cX8_unlike 41 = .ok (.iand, 1) := by decide +kernel
theorem dX8_unlike_42 : decode cX8_unlike 42 = .ok (.istore_n 3, 1) := by decide +kernel
theorem dX8_unlike_43 : decode cX8_unlike 43 = .ok (.goto (-13), 3) := by decide +kernel
theorem dX8_unlike_46 : decode cX8_unlike 46 = .ok (.iload_n 2, 1) := by decide +kernel
theorem dX8_unlike_47 : decode cX8_unlike 47 = .ok (.ireturn, 1) := by decide +kernel
theorem dX8_count_0 : decode cX8_count 0 = .ok (.aload_n 0, 1) := by decide +kernel
theorem dX8_count_1 : decode cX8_count 1 = .ok (.invokevirtual 101, 3) := by decide +kernel
theorem dX8_count_4 : decode cX8_count 4 = .ok (.pop, 1) := by decide +kernel
theorem dX8_count_5 : decode cX8_count 5 = .ok (.iload_n 1, 1) := by decide +kernel
theorem dX8_count_6 : decode cX8_count 6 = .ok (.tableswitch 93 0 8 #[50, 55, 60, 67, 67, 67, 76, 81, 88], 50) := by decide +kernel
theorem dX8_count_56 : decode cX8_count 56 = .ok (.aload_n 0, 1) := by decide +kernel
theorem dX8_count_57 : decode cX8_count 57 = .ok (.getfield 85, 3) := by decide +kernel
theorem dX8_count_60 : decode cX8_count 60 = .ok (.ireturn, 1) := by decide +kernel
theorem dX8_count_61 : decode cX8_count 61 = .ok (.aload_n 0, 1) := by decide +kernel
theorem dX8_count_62 : decode cX8_count 62 = .ok (.getfield 79, 3) := by decide +kernel
theorem dX8_count_65 : decode cX8_count 65 = .ok (.ireturn, 1) := by decide +kernel
theorem dX8_count_66 : decode cX8_count 66 = .ok (.aload_n 0, 1) := by decide +kernel
theorem dX8_count_67 : decode cX8_count 67 = .ok (.getfield 31, 3) := by decide +kernel
theorem dX8_count_70 : decode cX8_count 70 = .ok (.iconst 0, 1) := by decide +kernel
theorem dX8_count_71 : decode cX8_count 71 = .ok (.iaload, 1) := by decide +kernel
theorem dX8_count_72 : decode cX8_count 72 = .ok (.ireturn, 1) := by decide +kernel
theorem dX8_count_73 : decode cX8_count 73 = .ok (.aload_n 0, 1) := by decide +kernel
theorem dX8_count_74 : decode cX8_count 74 = .ok (.getfield 34, 3) := by decide +kernel
theorem dX8_count_77 : decode cX8_count 77 = .ok (.iload_n 1, 1) := by decide +kernel
theorem dX8_count_78 : decode cX8_count 78 = .ok (.iconst 3, 1) := by decide +kernel
theorem dX8_count_79 : decode cX8_count 79 = .ok (.isub, 1) := by decide +kernel
theorem dX8_count_80 : decode cX8_count 80 = .ok (.iaload, 1) := by decide +kernel
theorem dX8_count_81 : decode cX8_count 81 = .ok (.ireturn, 1) := by decide +kernel
theorem dX8_count_82 : decode cX8_count 82 = .ok (.aload_n 0, 1) := by decide +kernel
theorem dX8_count_83 : decode cX8_count 83 = .ok (.invokevirtual 238, 3) := by decide +kernel
theorem dX8_count_86 : decode cX8_count 86 = .ok (.ireturn, 1) := by decide +kernel
theorem dX8_count_87 : decode cX8_count 87 = .ok (.aload_n 0, 1) := by decide +kernel
theorem dX8_count_88 : decode cX8_count 88 = .ok (.getfield 31, 3) := by decide +kernel
theorem dX8_count_91 : decode cX8_count 91 = .ok (.iconst 2, 1) := by decide +kernel
theorem dX8_count_92 : decode cX8_count 92 = .ok (.iaload, 1) := by decide +kernel
theorem dX8_count_93 : decode cX8_count 93 = .ok (.ireturn, 1) := by decide +kernel
theorem dX8_count_94 : decode cX8_count 94 = .ok (.aload_n 0, 1) := by decide +kernel
theorem dX8_count_95 : decode cX8_count 95 = .ok (.getfield 52, 3) := by decide +kernel
theorem dX8_count_98 : decode cX8_count 98 = .ok (.ireturn, 1) := by decide +kernel
theorem dX8_count_99 : decode cX8_count 99 = .ok (.bipush (-2), 2) := by decide +kernel
theorem dX8_count_101 : decode cX8_count 101 = .ok (.ireturn, 1) := by decide +kernel
theorem dX8_digest_0 : decode cX8_digest 0 = .ok (.ldc2_w 241, 3) := by decide +kernel
theorem dX8_digest_3 : decode cX8_digest 3 = .ok (.lstore_n 1, 1) := by decide +kernel
theorem dX8_digest_4 : decode cX8_digest 4 = .ok (.iconst 0, 1) := by decide +kernel
theorem dX8_digest_5 : decode cX8_digest 5 = .ok (.istore_n 3, 1) := by decide +kernel
theorem dX8_digest_6 : decode cX8_digest 6 = .ok (.iload_n 3, 1) := by decide +kernel
theorem dX8_digest_7 : decode cX8_digest 7 = .ok (.bipush 8, 2) := by decide +kernel
theorem dX8_digest_9 : decode cX8_digest 9 = .ok (.if_icmp .ge 22, 3) := by decide +kernel
theorem dX8_digest_12 : decode cX8_digest 12 = .ok (.ldc2_w 243, 3) := by decide +kernel
theorem dX8_digest_15 : decode cX8_digest 15 = .ok (.lload_n 1, 1) := by decide +kernel
theorem dX8_digest_16 : decode cX8_digest 16 = .ok (.lmul, 1) := by decide +kernel
theorem dX8_digest_17 : decode cX8_digest 17 = .ok (.aload_n 0, 1) := by decide +kernel
theorem dX8_digest_18 : decode cX8_digest 18 = .ok (.iload_n 3, 1) := by decide +kernel
theorem dX8_digest_19 : decode cX8_digest 19 = .ok (.invokevirtual 245, 3) := by decide +kernel
theorem dX8_digest_22 : decode cX8_digest 22 = .ok (.i2l, 1) := by decide +kernel
theorem dX8_digest_23 : decode cX8_digest 23 = .ok (.ladd, 1) := by decide +kernel
theorem dX8_digest_24 : decode cX8_digest 24 = .ok (.lstore_n 1, 1) := by decide +kernel
theorem dX8_digest_25 : decode cX8_digest 25 = .ok (.iinc 3 1, 3) := by decide +kernel
theorem dX8_digest_28 : decode cX8_digest 28 = .ok (.goto (-22), 3) := by decide +kernel
theorem dX8_digest_31 : decode cX8_digest 31 = .ok (.ldc2_w 243, 3) := by decide +kernel
theorem dX8_digest_34 : decode cX8_digest 34 = .ok (.lload_n 1, 1) := by decide +kernel
theorem dX8_digest_35 : decode cX8_digest 35 = .ok (.lmul, 1) := by decide +kernel
theorem dX8_digest_36 : decode cX8_digest 36 = .ok (.aload_n 0, 1) := by decide +kernel
theorem dX8_digest_37 : decode cX8_digest 37 = .ok (.invokevirtual 101, 3) := by decide +kernel
theorem dX8_digest_40 : decode cX8_digest 40 = .ok (.i2l, 1) := by decide +kernel
theorem dX8_digest_41 : decode cX8_digest 41 = .ok (.ladd, 1) := by decide +kernel
theorem dX8_digest_42 : decode cX8_digest 42 = .ok (.lstore_n 1, 1) := by decide +kernel
theorem dX8_digest_43 : decode cX8_digest 43 = .ok (.iconst 0, 1) := by decide +kernel
theorem dX8_digest_44 : decode cX8_digest 44 = .ok (.istore_n 3, 1) := by decide +kernel
theorem dX8_digest_45 : decode cX8_digest 45 = .ok (.iload_n 3, 1) := by decide +kernel
theorem dX8_digest_46 : decode cX8_digest 46 = .ok (.aload_n 0, 1) := by decide +kernel
theorem dX8_digest_47 : decode cX8_digest 47 = .ok (.getfield 85, 3) := by decide +kernel
theorem dX8_digest_50 : decode cX8_digest 50 = .ok (.if_icmp .ge 59, 3) := by decide +kernel
theorem dX8_digest_53 : decode cX8_digest 53 = .ok (.iconst 0, 1) := by decide +kernel
theorem dX8_digest_54 : decode cX8_digest 54 = .ok (.istore 4, 2) := by decide +kernel
theorem dX8_digest_56 : decode cX8_digest 56 = .ok (.iload 4, 2) := by decide +kernel
theorem dX8_digest_58 : decode cX8_digest 58 = .ok (.iconst 4, 1) := by decide +kernel
theorem dX8_digest_59 : decode cX8_digest 59 = .ok (.if_icmp .ge 28, 3) := by decide +kernel
theorem dX8_digest_62 : decode cX8_digest 62 = .ok (.ldc2_w 243, 3) := by decide +kernel
theorem dX8_digest_65 : decode cX8_digest 65 = .ok (.lload_n 1, 1) := by decide +kernel
theorem dX8_digest_66 : decode cX8_digest 66 = .ok (.lmul, 1) := by decide +kernel
theorem dX8_digest_67 : decode cX8_digest 67 = .ok (.aload_n 0, 1) := by decide +kernel
theorem dX8_digest_68 : decode cX8_digest 68 = .ok (.getfield 25, 3) := by decide +kernel
theorem dX8_digest_71 : decode cX8_digest 71 = .ok (.iconst 4, 1) := by decide +kernel
theorem dX8_digest_72 : decode cX8_digest 72 = .ok (.iload_n 3, 1) := by decide +kernel
theorem dX8_digest_73 : decode cX8_digest 73 = .ok (.imul, 1) := by decide +kernel
theorem dX8_digest_74 : decode cX8_digest 74 = .ok (.iload 4, 2) := by decide +kernel
theorem dX8_digest_76 : decode cX8_digest 76 = .ok (.iadd, 1) := by decide +kernel
theorem dX8_digest_77 : decode cX8_digest 77 = .ok (.iaload, 1) := by decide +kernel
theorem dX8_digest_78 : decode cX8_digest 78 = .ok (.i2l, 1) := by decide +kernel
theorem dX8_digest_79 : decode cX8_digest 79 = .ok (.ladd, 1) := by decide +kernel
theorem dX8_digest_80 : decode cX8_digest 80 = .ok (.lstore_n 1, 1) := by decide +kernel
theorem dX8_digest_81 : decode cX8_digest 81 = .ok (.iinc 4 1, 3) := by decide +kernel
theorem dX8_digest_84 : decode cX8_digest 84 = .ok (.goto (-28), 3) := by decide +kernel
theorem dX8_digest_87 : decode cX8_digest 87 = .ok (.ldc2_w 243, 3) := by decide +kernel
theorem dX8_digest_90 : decode cX8_digest 90 = .ok (.lload_n 1, 1) := by decide +kernel
theorem dX8_digest_91 : decode cX8_digest 91 = .ok (.lmul, 1) := by decide +kernel
theorem dX8_digest_92 : decode cX8_digest 92 = .ok (.aload_n 0, 1) := by decide +kernel
theorem dX8_digest_93 : decode cX8_digest 93 = .ok (.iload_n 3, 1) := by decide +kernel
theorem dX8_digest_94 : decode cX8_digest 94 = .ok (.iconst 1, 1) := by decide +kernel
theorem dX8_digest_95 : decode cX8_digest 95 = .ok (.bipush 50, 2) := by decide +kernel
theorem dX8_digest_97 : decode cX8_digest 97 = .ok (.invokevirtual 133, 3) := by decide +kernel
theorem dX8_digest_100 : decode cX8_digest 100 = .ok (.i2l, 1) := by decide +kernel
theorem dX8_digest_101 : decode cX8_digest 101 = .ok (.ladd, 1) := by decide +kernel
theorem dX8_digest_102 : decode cX8_digest 102 = .ok (.lstore_n 1, 1) := by decide +kernel
theorem dX8_digest_103 : decode cX8_digest 103 = .ok (.iinc 3 1, 3) := by decide +kernel
theorem dX8_digest_106 : decode cX8_digest 106 = .ok (.goto (-61), 3) := by decide +kernel
theorem dX8_digest_109 : decode cX8_digest 109 = .ok (.iconst 0, 1) := by decide +kernel
theorem dX8_digest_110 : decode cX8_digest 110 = .ok (.istore_n 3, 1) := by decide +kernel
theorem dX8_digest_111 : decode cX8_digest 111 = .ok (.iload_n 3, 1) := by decide +kernel
theorem dX8_digest_112 : decode cX8_digest 112 = .ok (.iconst 4, 1) := by decide +kernel
theorem dX8_digest_113 : decode cX8_digest 113 = .ok (.if_icmp .ge 50, 3) := by decide +kernel
theorem dX8_digest_116 : decode cX8_digest 116 = .ok (.ldc2_w 243, 3) := by decide +kernel
theorem dX8_digest_119 : decode cX8_digest 119 = .ok (.lload_n 1, 1) := by decide +kernel
theorem dX8_digest_120 : decode cX8_digest 120 = .ok (.lmul, 1) := by decide +kernel
theorem dX8_digest_121 : decode cX8_digest 121 = .ok (.aload_n 0, 1) := by decide +kernel
theorem dX8_digest_122 : decode cX8_digest 122 = .ok (.iload_n 3, 1) := by decide +kernel
theorem dX8_digest_123 : decode cX8_digest 123 = .ok (.iconst 0, 1) := by decide +kernel
theorem dX8_digest_124 : decode cX8_digest 124 = .ok (.invokevirtual 248, 3) := by decide +kernel
theorem dX8_digest_127 : decode cX8_digest 127 = .ok (.i2l, 1) := by decide +kernel
theorem dX8_digest_128 : decode cX8_digest 128 = .ok (.ladd, 1) := by decide +kernel
theorem dX8_digest_129 : decode cX8_digest 129 = .ok (.lstore_n 1, 1) := by decide +kernel
theorem dX8_digest_130 : decode cX8_digest 130 = .ok (.ldc2_w 243, 3) := by decide +kernel
theorem dX8_digest_133 : decode cX8_digest 133 = .ok (.lload_n 1, 1) := by decide +kernel
theorem dX8_digest_134 : decode cX8_digest 134 = .ok (.lmul, 1) := by decide +kernel
theorem dX8_digest_135 : decode cX8_digest 135 = .ok (.aload_n 0, 1) := by decide +kernel
theorem dX8_digest_136 : decode cX8_digest 136 = .ok (.iload_n 3, 1) := by decide +kernel
theorem dX8_digest_137 : decode cX8_digest 137 = .ok (.iconst 1, 1) := by decide +kernel
theorem dX8_digest_138 : decode cX8_digest 138 = .ok (.invokevirtual 248, 3) := by decide +kernel
theorem dX8_digest_141 : decode cX8_digest 141 = .ok (.i2l, 1) := by decide +kernel
theorem dX8_digest_142 : decode cX8_digest 142 = .ok (.ladd, 1) := by decide +kernel
theorem dX8_digest_143 : decode cX8_digest 143 = .ok (.lstore_n 1, 1) := by decide +kernel
theorem dX8_digest_144 : decode cX8_digest 144 = .ok (.ldc2_w 243, 3) := by decide +kernel
theorem dX8_digest_147 : decode cX8_digest 147 = .ok (.lload_n 1, 1) := by decide +kernel
theorem dX8_digest_148 : decode cX8_digest 148 = .ok (.lmul, 1) := by decide +kernel
theorem dX8_digest_149 : decode cX8_digest 149 = .ok (.aload_n 0, 1) := by decide +kernel
theorem dX8_digest_150 : decode cX8_digest 150 = .ok (.iload_n 3, 1) := by decide +kernel
theorem dX8_digest_151 : decode cX8_digest 151 = .ok (.invokevirtual 168, 3) := by decide +kernel
theorem dX8_digest_154 : decode cX8_digest 154 = .ok (.i2l, 1) := by decide +kernel
theorem dX8_digest_155 : decode cX8_digest 155 = .ok (.ladd, 1) := by decide +kernel
theorem dX8_digest_156 : decode cX8_digest 156 = .ok (.lstore_n 1, 1) := by decide +kernel
theorem dX8_digest_157 : decode cX8_digest 157 = .ok (.iinc 3 1, 3) := by decide +kernel
theorem dX8_digest_160 : decode cX8_digest 160 = .ok (.goto (-49), 3) := by decide +kernel
theorem dX8_digest_163 : decode cX8_digest 163 = .ok (.iconst 0, 1) := by decide +kernel
theorem dX8_digest_164 : decode cX8_digest 164 = .ok (.istore_n 3, 1) := by decide +kernel
theorem dX8_digest_165 : decode cX8_digest 165 = .ok (.iload_n 3, 1) := by decide +kernel
theorem dX8_digest_166 : decode cX8_digest 166 = .ok (.iconst 3, 1) := by decide +kernel
theorem dX8_digest_167 : decode cX8_digest 167 = .ok (.if_icmp .ge 90, 3) := by decide +kernel
theorem dX8_digest_170 : decode cX8_digest 170 = .ok (.ldc2_w 243, 3) := by decide +kernel
theorem dX8_digest_173 : decode cX8_digest 173 = .ok (.lload_n 1, 1) := by decide +kernel
theorem dX8_digest_174 : decode cX8_digest 174 = .ok (.lmul, 1) := by decide +kernel
theorem dX8_digest_175 : decode cX8_digest 175 = .ok (.aload_n 0, 1) := by decide +kernel
theorem dX8_digest_176 : decode cX8_digest 176 = .ok (.iload_n 3, 1) := by decide +kernel
theorem dX8_digest_177 : decode cX8_digest 177 = .ok (.invokevirtual 156, 3) := by decide +kernel
theorem dX8_digest_180 : decode cX8_digest 180 = .ok (.i2l, 1) := by decide +kernel
theorem dX8_digest_181 : decode cX8_digest 181 = .ok (.ladd, 1) := by decide +kernel
theorem dX8_digest_182 : decode cX8_digest 182 = .ok (.lstore_n 1, 1) := by decide +kernel
theorem dX8_digest_183 : decode cX8_digest 183 = .ok (.ldc2_w 243, 3) := by decide +kernel
theorem dX8_digest_186 : decode cX8_digest 186 = .ok (.lload_n 1, 1) := by decide +kernel
theorem dX8_digest_187 : decode cX8_digest 187 = .ok (.lmul, 1) := by decide +kernel
theorem dX8_digest_188 : decode cX8_digest 188 = .ok (.aload_n 0, 1) := by decide +kernel
theorem dX8_digest_189 : decode cX8_digest 189 = .ok (.iload_n 3, 1) := by decide +kernel
theorem dX8_digest_190 : decode cX8_digest 190 = .ok (.invokevirtual 159, 3) := by decide +kernel
theorem dX8_digest_193 : decode cX8_digest 193 = .ok (.i2l, 1) := by decide +kernel
theorem dX8_digest_194 : decode cX8_digest 194 = .ok (.ladd, 1) := by decide +kernel
theorem dX8_digest_195 : decode cX8_digest 195 = .ok (.lstore_n 1, 1) := by decide +kernel
theorem dX8_digest_196 : decode cX8_digest 196 = .ok (.ldc2_w 243, 3) := by decide +kernel
theorem dX8_digest_199 : decode cX8_digest 199 = .ok (.lload_n 1, 1) := by decide +kernel
theorem dX8_digest_200 : decode cX8_digest 200 = .ok (.lmul, 1) := by decide +kernel
theorem dX8_digest_201 : decode cX8_digest 201 = .ok (.aload_n 0, 1) := by decide +kernel
theorem dX8_digest_202 : decode cX8_digest 202 = .ok (.iload_n 3, 1) := by decide +kernel
theorem dX8_digest_203 : decode cX8_digest 203 = .ok (.invokevirtual 177, 3) := by decide +kernel
theorem dX8_digest_206 : decode cX8_digest 206 = .ok (.i2l, 1) := by decide +kernel
theorem dX8_digest_207 : decode cX8_digest 207 = .ok (.ladd, 1) := by decide +kernel
theorem dX8_digest_208 : decode cX8_digest 208 = .ok (.lstore_n 1, 1) := by decide +kernel
theorem dX8_digest_209 : decode cX8_digest 209 = .ok (.ldc2_w 243, 3) := by decide +kernel
theorem dX8_digest_212 : decode cX8_digest 212 = .ok (.lload_n 1, 1) := by decide +kernel
theorem dX8_digest_213 : decode cX8_digest 213 = .ok (.lmul, 1) := by decide +kernel
theorem dX8_digest_214 : decode cX8_digest 214 = .ok (.aload_n 0, 1) := by decide +kernel
theorem dX8_digest_215 : decode cX8_digest 215 = .ok (.iload_n 3, 1) := by decide +kernel
theorem dX8_digest_216 : decode cX8_digest 216 = .ok (.bipush 10, 2) := by decide +kernel
theorem dX8_digest_218 : decode cX8_digest 218 = .ok (.invokevirtual 195, 3) := by decide +kernel
theorem dX8_digest_221 : decode cX8_digest 221 = .ok (.i2l, 1) := by decide +kernel
theorem dX8_digest_222 : decode cX8_digest 222 = .ok (.ladd, 1) := by decide +kernel
theorem dX8_digest_223 : decode cX8_digest 223 = .ok (.lstore_n 1, 1) := by decide +kernel
theorem dX8_digest_224 : decode cX8_digest 224 = .ok (.ldc2_w 243, 3) := by decide +kernel
theorem dX8_digest_227 : decode cX8_digest 227 = .ok (.lload_n 1, 1) := by decide +kernel
theorem dX8_digest_228 : decode cX8_digest 228 = .ok (.lmul, 1) := by decide +kernel
theorem dX8_digest_229 : decode cX8_digest 229 = .ok (.aload_n 0, 1) := by decide +kernel
theorem dX8_digest_230 : decode cX8_digest 230 = .ok (.iload_n 3, 1) := by decide +kernel
theorem dX8_digest_231 : decode cX8_digest 231 = .ok (.invokevirtual 204, 3) := by decide +kernel
theorem dX8_digest_234 : decode cX8_digest 234 = .ok (.i2l, 1) := by decide +kernel
theorem dX8_digest_235 : decode cX8_digest 235 = .ok (.ladd, 1) := by decide +kernel
theorem dX8_digest_236 : decode cX8_digest 236 = .ok (.lstore_n 1, 1) := by decide +kernel
theorem dX8_digest_237 : decode cX8_digest 237 = .ok (.ldc2_w 243, 3) := by decide +kernel
theorem dX8_digest_240 : decode cX8_digest 240 = .ok (.lload_n 1, 1) := by decide +kernel
theorem dX8_digest_241 : decode cX8_digest 241 = .ok (.lmul, 1) := by decide +kernel
theorem dX8_digest_242 : decode cX8_digest 242 = .ok (.aload_n 0, 1) := by decide +kernel
theorem dX8_digest_243 : decode cX8_digest 243 = .ok (.iload_n 3, 1) := by decide +kernel
theorem dX8_digest_244 : decode cX8_digest 244 = .ok (.iconst 5, 1) := by decide +kernel
theorem dX8_digest_245 : decode cX8_digest 245 = .ok (.invokevirtual 251, 3) := by decide +kernel
theorem dX8_digest_248 : decode cX8_digest 248 = .ok (.i2l, 1) := by decide +kernel
theorem dX8_digest_249 : decode cX8_digest 249 = .ok (.ladd, 1) := by decide +kernel
theorem dX8_digest_250 : decode cX8_digest 250 = .ok (.lstore_n 1, 1) := by decide +kernel
theorem dX8_digest_251 : decode cX8_digest 251 = .ok (.iinc 3 1, 3) := by decide +kernel
theorem dX8_digest_254 : decode cX8_digest 254 = .ok (.goto (-89), 3) := by decide +kernel
theorem dX8_digest_257 : decode cX8_digest 257 = .ok (.ldc2_w 243, 3) := by decide +kernel
theorem dX8_digest_260 : decode cX8_digest 260 = .ok (.lload_n 1, 1) := by decide +kernel
theorem dX8_digest_261 : decode cX8_digest 261 = .ok (.lmul, 1) := by decide +kernel
theorem dX8_digest_262 : decode cX8_digest 262 = .ok (.aload_n 0, 1) := by decide +kernel
theorem dX8_digest_263 : decode cX8_digest 263 = .ok (.invokevirtual 254, 3) := by decide +kernel
theorem dX8_digest_266 : decode cX8_digest 266 = .ok (.i2l, 1) := by decide +kernel
theorem dX8_digest_267 : decode cX8_digest 267 = .ok (.ladd, 1) := by decide +kernel
theorem dX8_digest_268 : decode cX8_digest 268 = .ok (.lstore_n 1, 1) := by decide +kernel
theorem dX8_digest_269 : decode cX8_digest 269 = .ok (.iconst 0, 1) := by decide +kernel
theorem dX8_digest_270 : decode cX8_digest 270 = .ok (.istore_n 3, 1) := by decide +kernel
theorem dX8_digest_271 : decode cX8_digest 271 = .ok (.iload_n 3, 1) := by decide +kernel
theorem dX8_digest_272 : decode cX8_digest 272 = .ok (.iconst 2, 1) := by decide +kernel
theorem dX8_digest_273 : decode cX8_digest 273 = .ok (.if_icmp .ge 21, 3) := by decide +kernel
theorem dX8_digest_276 : decode cX8_digest 276 = .ok (.ldc2_w 243, 3) := by decide +kernel
theorem dX8_digest_279 : decode cX8_digest 279 = .ok (.lload_n 1, 1) := by decide +kernel
theorem dX8_digest_280 : decode cX8_digest 280 = .ok (.lmul, 1) := by decide +kernel
theorem dX8_digest_281 : decode cX8_digest 281 = .ok (.aload_n 0, 1) := by decide +kernel
theorem dX8_digest_282 : decode cX8_digest 282 = .ok (.iload_n 3, 1) := by decide +kernel
theorem dX8_digest_283 : decode cX8_digest 283 = .ok (.invokevirtual 190, 3) := by decide +kernel
theorem dX8_digest_286 : decode cX8_digest 286 = .ok (.ladd, 1) := by decide +kernel
theorem dX8_digest_287 : decode cX8_digest 287 = .ok (.lstore_n 1, 1) := by decide +kernel
theorem dX8_digest_288 : decode cX8_digest 288 = .ok (.iinc 3 1, 3) := by decide +kernel
theorem dX8_digest_291 : decode cX8_digest 291 = .ok (.goto (-20), 3) := by decide +kernel
theorem dX8_digest_294 : decode cX8_digest 294 = .ok (.aload_n 0, 1) := by decide +kernel
theorem dX8_digest_295 : decode cX8_digest 295 = .ok (.iconst (-1), 1) := by decide +kernel
theorem dX8_digest_296 : decode cX8_digest 296 = .ok (.iconst 0, 1) := by decide +kernel
theorem dX8_digest_297 : decode cX8_digest 297 = .ok (.invokevirtual 217, 3) := by decide +kernel
theorem dX8_digest_300 : decode cX8_digest 300 = .ok (.pop, 1) := by decide +kernel
theorem dX8_digest_301 : decode cX8_digest 301 = .ok (.iconst 0, 1) := by decide +kernel
theorem dX8_digest_302 : decode cX8_digest 302 = .ok (.istore_n 3, 1) := by decide +kernel
theorem dX8_digest_303 : decode cX8_digest 303 = .ok (.iload_n 3, 1) := by decide +kernel
theorem dX8_digest_304 : decode cX8_digest 304 = .ok (.bipush 8, 2) := by decide +kernel
theorem dX8_digest_306 : decode cX8_digest 306 = .ok (.if_icmp .ge 23, 3) := by decide +kernel
theorem dX8_digest_309 : decode cX8_digest 309 = .ok (.ldc2_w 243, 3) := by decide +kernel
theorem dX8_digest_312 : decode cX8_digest 312 = .ok (.lload_n 1, 1) := by decide +kernel
theorem dX8_digest_313 : decode cX8_digest 313 = .ok (.lmul, 1) := by decide +kernel
theorem dX8_digest_314 : decode cX8_digest 314 = .ok (.aload_n 0, 1) := by decide +kernel
theorem dX8_digest_315 : decode cX8_digest 315 = .ok (.getfield 40, 3) := by decide +kernel
theorem dX8_digest_318 : decode cX8_digest 318 = .ok (.iload_n 3, 1) := by decide +kernel
theorem dX8_digest_319 : decode cX8_digest 319 = .ok (.iaload, 1) := by decide +kernel
theorem dX8_digest_320 : decode cX8_digest 320 = .ok (.i2l, 1) := by decide +kernel
theorem dX8_digest_321 : decode cX8_digest 321 = .ok (.ladd, 1) := by decide +kernel
theorem dX8_digest_322 : decode cX8_digest 322 = .ok (.lstore_n 1, 1) := by decide +kernel
theorem dX8_digest_323 : decode cX8_digest 323 = .ok (.iinc 3 1, 3) := by decide +kernel
theorem dX8_digest_326 : decode cX8_digest 326 = .ok (.goto (-23), 3) := by decide +kernel
theorem dX8_digest_329 : decode cX8_digest 329 = .ok (.ldc2_w 243, 3) := by decide +kernel
theorem dX8_digest_332 : decode cX8_digest 332 = .ok (.lload_n 1, 1) := by decide +kernel
theorem dX8_digest_333 : decode cX8_digest 333 = .ok (.lmul, 1) := by decide +kernel
theorem dX8_digest_334 : decode cX8_digest 334 = .ok (.aload_n 0, 1) := by decide +kernel
theorem dX8_digest_335 : decode cX8_digest 335 = .ok (.iconst 1, 1) := by decide +kernel
theorem dX8_digest_336 : decode cX8_digest 336 = .ok (.iconst 0, 1) := by decide +kernel
theorem dX8_digest_337 : decode cX8_digest 337 = .ok (.invokevirtual 217, 3) := by decide +kernel
theorem dX8_digest_340 : decode cX8_digest 340 = .ok (.i2l, 1) := by decide +kernel
theorem dX8_digest_341 : decode cX8_digest 341 = .ok (.ladd, 1) := by decide +kernel
theorem dX8_digest_342 : decode cX8_digest 342 = .ok (.lstore_n 1, 1) := by decide +kernel
theorem dX8_digest_343 : decode cX8_digest 343 = .ok (.ldc2_w 243, 3) := by decide +kernel
theorem dX8_digest_346 : decode cX8_digest 346 = .ok (.lload_n 1, 1) := by decide +kernel
theorem dX8_digest_347 : decode cX8_digest 347 = .ok (.lmul, 1) := by decide +kernel
theorem dX8_digest_348 : decode cX8_digest 348 = .ok (.aload_n 0, 1) := by decide +kernel
theorem dX8_digest_349 : decode cX8_digest 349 = .ok (.bipush 7, 2) := by decide +kernel
theorem dX8_digest_351 : decode cX8_digest 351 = .ok (.invokevirtual 257, 3) := by decide +kernel
theorem dX8_digest_354 : decode cX8_digest 354 = .ok (.i2l, 1) := by decide +kernel
theorem dX8_digest_355 : decode cX8_digest 355 = .ok (.ladd, 1) := by decide +kernel
theorem dX8_digest_356 : decode cX8_digest 356 = .ok (.lstore_n 1, 1) := by decide +kernel
theorem dX8_digest_357 : decode cX8_digest 357 = .ok (.ldc2_w 243, 3) := by decide +kernel
theorem dX8_digest_360 : decode cX8_digest 360 = .ok (.lload_n 1, 1) := by decide +kernel
theorem dX8_digest_361 : decode cX8_digest 361 = .ok (.lmul, 1) := by decide +kernel
theorem dX8_digest_362 : decode cX8_digest 362 = .ok (.aload_n 0, 1) := by decide +kernel
theorem dX8_digest_363 : decode cX8_digest 363 = .ok (.bipush 7, 2) := by decide +kernel
theorem dX8_digest_365 : decode cX8_digest 365 = .ok (.bipush 10, 2) := by decide +kernel
theorem dX8_digest_367 : decode cX8_digest 367 = .ok (.sipush 5000, 3) := by decide +kernel
theorem dX8_digest_370 : decode cX8_digest 370 = .ok (.invokevirtual 260, 3) := by decide +kernel
theorem dX8_digest_373 : decode cX8_digest 373 = .ok (.i2l, 1) := by decide +kernel
theorem dX8_digest_374 : decode cX8_digest 374 = .ok (.ladd, 1) := by decide +kernel
theorem dX8_digest_375 : decode cX8_digest 375 = .ok (.lreturn, 1) := by decide +kernel
theorem dJ6_bitCount_0f7a4_0 : decode cJ6_bitCount_0f7a4 0 = .ok (.iload_n 0, 1) := by decide +kernel
theorem dJ6_bitCount_0f7a4_1 : decode cJ6_bitCount_0f7a4 1 = .ok (.iload_n 0, 1) := by decide +kernel
theorem dJ6_bitCount_0f7a4_2 : decode cJ6_bitCount_0f7a4 2 = .ok (.iconst 1, 1) := by decide +kernel
theorem dJ6_bitCount_0f7a4_3 : decode cJ6_bitCount_0f7a4 3 = .ok (.iushr, 1) := by decide +kernel
theorem dJ6_bitCount_0f7a4_4 : decode cJ6_bitCount_0f7a4 4 = .ok (.ldc_w 265, 3) := by decide +kernel
theorem dJ6_bitCount_0f7a4_7 : decode cJ6_bitCount_0f7a4 7 = .ok (.iand, 1) := by decide +kernel
theorem dJ6_bitCount_0f7a4_8 : decode cJ6_bitCount_0f7a4 8 = .ok (.isub, 1) := by decide +kernel
theorem dJ6_bitCount_0f7a4_9 : decode cJ6_bitCount_0f7a4 9 = .ok (.istore_n 0, 1) := by decide +kernel
theorem dJ6_bitCount_0f7a4_10 : decode cJ6_bitCount_0f7a4 10 = .ok (.iload_n 0, 1) := by decide +kernel
theorem dJ6_bitCount_0f7a4_11 : decode cJ6_bitCount_0f7a4 11 = .ok (.ldc_w 266, 3) := by decide +kernel
theorem dJ6_bitCount_0f7a4_14 : decode cJ6_bitCount_0f7a4 14 = .ok (.iand, 1) := by decide +kernel
theorem dJ6_bitCount_0f7a4_15 : decode cJ6_bitCount_0f7a4 15 = .ok (.iload_n 0, 1) := by decide +kernel
theorem dJ6_bitCount_0f7a4_16 : decode cJ6_bitCount_0f7a4 16 = .ok (.iconst 2, 1) := by decide +kernel
theorem dJ6_bitCount_0f7a4_17 : decode cJ6_bitCount_0f7a4 17 = .ok (.iushr, 1) := by decide +kernel
theorem dJ6_bitCount_0f7a4_18 : decode cJ6_bitCount_0f7a4 18 = .ok (.ldc_w 266, 3) := by decide +kernel
theorem dJ6_bitCount_0f7a4_21 : decode cJ6_bitCount_0f7a4 21 = .ok (.iand, 1) := by decide +kernel
theorem dJ6_bitCount_0f7a4_22 : decode cJ6_bitCount_0f7a4 22 = .ok (.iadd, 1) := by decide +kernel
theorem dJ6_bitCount_0f7a4_23 : decode cJ6_bitCount_0f7a4 23 = .ok (.istore_n 0, 1) := by decide +kernel
theorem dJ6_bitCount_0f7a4_24 : decode cJ6_bitCount_0f7a4 24 = .ok (.iload_n 0, 1) := by decide +kernel
theorem dJ6_bitCount_0f7a4_25 : decode cJ6_bitCount_0f7a4 25 = .ok (.iload_n 0, 1) := by decide +kernel
theorem dJ6_bitCount_0f7a4_26 : decode cJ6_bitCount_0f7a4 26 = .ok (.iconst 4, 1) := by decide +kernel
theorem dJ6_bitCount_0f7a4_27 : decode cJ6_bitCount_0f7a4 27 = .ok (.iushr, 1) := by decide +kernel
theorem dJ6_bitCount_0f7a4_28 : decode cJ6_bitCount_0f7a4 28 = .ok (.iadd, 1) := by decide +kernel
theorem dJ6_bitCount_0f7a4_29 : decode cJ6_bitCount_0f7a4 29 = .ok (.ldc_w 267, 3) := by decide +kernel
theorem dJ6_bitCount_0f7a4_32 : decode cJ6_bitCount_0f7a4 32 = .ok (.iand, 1) := by decide +kernel
theorem dJ6_bitCount_0f7a4_33 : decode cJ6_bitCount_0f7a4 33 = .ok (.istore_n 0, 1) := by decide +kernel
theorem dJ6_bitCount_0f7a4_34 : decode cJ6_bitCount_0f7a4 34 = .ok (.iload_n 0, 1) := by decide +kernel
theorem dJ6_bitCount_0f7a4_35 : decode cJ6_bitCount_0f7a4 35 = .ok (.iload_n 0, 1) := by decide +kernel
theorem dJ6_bitCount_0f7a4_36 : decode cJ6_bitCount_0f7a4 36 = .ok (.bipush 8, 2) := by decide +kernel
theorem dJ6_bitCount_0f7a4_38 : decode cJ6_bitCount_0f7a4 38 = .ok (.iushr, 1) := by decide +kernel
theorem dJ6_bitCount_0f7a4_39 : decode cJ6_bitCount_0f7a4 39 = .ok (.iadd, 1) := by decide +kernel
theorem dJ6_bitCount_0f7a4_40 : decode cJ6_bitCount_0f7a4 40 = .ok (.istore_n 0, 1) := by decide +kernel
theorem dJ6_bitCount_0f7a4_41 : decode cJ6_bitCount_0f7a4 41 = .ok (.iload_n 0, 1) := by decide +kernel
theorem dJ6_bitCount_0f7a4_42 : decode cJ6_bitCount_0f7a4 42 = .ok (.iload_n 0, 1) := by decide +kernel
theorem dJ6_bitCount_0f7a4_43 : decode cJ6_bitCount_0f7a4 43 = .ok (.bipush 16, 2) := by decide +kernel
theorem dJ6_bitCount_0f7a4_45 : decode cJ6_bitCount_0f7a4 45 = .ok (.iushr, 1) := by decide +kernel
theorem dJ6_bitCount_0f7a4_46 : decode cJ6_bitCount_0f7a4 46 = .ok (.iadd, 1) := by decide +kernel
theorem dJ6_bitCount_0f7a4_47 : decode cJ6_bitCount_0f7a4 47 = .ok (.istore_n 0, 1) := by decide +kernel
theorem dJ6_bitCount_0f7a4_48 : decode cJ6_bitCount_0f7a4 48 = .ok (.iload_n 0, 1) := by decide +kernel
theorem dJ6_bitCount_0f7a4_49 : decode cJ6_bitCount_0f7a4 49 = .ok (.bipush 63, 2) := by decide +kernel
theorem dJ6_bitCount_0f7a4_51 : decode cJ6_bitCount_0f7a4 51 = .ok (.iand, 1) := by decide +kernel
theorem dJ6_bitCount_0f7a4_52 : decode cJ6_bitCount_0f7a4 52 = .ok (.ireturn, 1) := by decide +kernel
theorem dJ9_max_7cf53_0 : decode cJ9_max_7cf53 0 = .ok (.iload_n 0, 1) := by decide +kernel
theorem dJ9_max_7cf53_1 : decode cJ9_max_7cf53 1 = .ok (.iload_n 1, 1) := by decide +kernel
theorem dJ9_max_7cf53_2 : decode cJ9_max_7cf53 2 = .ok (.if_icmp .lt 7, 3) := by decide +kernel
theorem dJ9_max_7cf53_5 : decode cJ9_max_7cf53 5 = .ok (.iload_n 0, 1) := by decide +kernel
theorem dJ9_max_7cf53_6 : decode cJ9_max_7cf53 6 = .ok (.goto 4, 3) := by decide +kernel
theorem dJ9_max_7cf53_9 : decode cJ9_max_7cf53 9 = .ok (.iload_n 1, 1) := by decide +kernel
theorem dJ9_max_7cf53_10 : decode cJ9_max_7cf53 10 = .ok (.ireturn, 1) := by decide +kernel
theorem dJ9_min_7cf53_0 : decode cJ9_min_7cf53 0 = .ok (.iload_n 0, 1) := by decide +kernel
theorem dJ9_min_7cf53_1 : decode cJ9_min_7cf53 1 = .ok (.iload_n 1, 1) := by decide +kernel
theorem dJ9_min_7cf53_2 : decode cJ9_min_7cf53 2 = .ok (.if_icmp .gt 7, 3) := by decide +kernel
theorem dJ9_min_7cf53_5 : decode cJ9_min_7cf53 5 = .ok (.iload_n 0, 1) := by decide +kernel
theorem dJ9_min_7cf53_6 : decode cJ9_min_7cf53 6 = .ok (.goto 4, 3) := by decide +kernel
theorem dJ9_min_7cf53_9 : decode cJ9_min_7cf53 9 = .ok (.iload_n 1, 1) := by decide +kernel
theorem dJ9_min_7cf53_10 : decode cJ9_min_7cf53 10 = .ok (.ireturn, 1) := by decide +kernel
theorem dJ7_fill_53178_0 : decode cJ7_fill_53178 0 = .ok (.iconst 0, 1) := by decide +kernel
theorem dJ7_fill_53178_1 : decode cJ7_fill_53178 1 = .ok (.istore_n 2, 1) := by decide +kernel
theorem dJ7_fill_53178_2 : decode cJ7_fill_53178 2 = .ok (.aload_n 0, 1) := by decide +kernel
theorem dJ7_fill_53178_3 : decode cJ7_fill_53178 3 = .ok (.arraylength, 1) := by decide +kernel
theorem dJ7_fill_53178_4 : decode cJ7_fill_53178 4 = .ok (.istore_n 3, 1) := by decide +kernel
theorem dJ7_fill_53178_5 : decode cJ7_fill_53178 5 = .ok (.iload_n 2, 1) := by decide +kernel
theorem dJ7_fill_53178_6 : decode cJ7_fill_53178 6 = .ok (.iload_n 3, 1) := by decide +kernel
theorem dJ7_fill_53178_7 : decode cJ7_fill_53178 7 = .ok (.if_icmp .ge 13, 3) := by decide +kernel
theorem dJ7_fill_53178_10 : decode cJ7_fill_53178 10 = .ok (.aload_n 0, 1) := by decide +kernel
theorem dJ7_fill_53178_11 : decode cJ7_fill_53178 11 = .ok (.iload_n 2, 1) := by decide +kernel
theorem dJ7_fill_53178_12 : decode cJ7_fill_53178 12 = .ok (.iload_n 1, 1) := by decide +kernel
theorem dJ7_fill_53178_13 : decode cJ7_fill_53178 13 = .ok (.iastore, 1) := by decide +kernel
theorem dJ7_fill_53178_14 : decode cJ7_fill_53178 14 = .ok (.iinc 2 1, 3) := by decide +kernel
theorem dJ7_fill_53178_17 : decode cJ7_fill_53178 17 = .ok (.goto (-12), 3) := by decide +kernel
theorem dJ7_fill_53178_20 : decode cJ7_fill_53178 20 = .ok (.return_, 1) := by decide +kernel
end
section
theorem dL_law_0 : decode cL_law 0 = .ok (.new 7, 3) := by decide +kernel
theorem dL_law_3 : decode cL_law 3 = .ok (.dup, 1) := by decide +kernel
theorem dL_law_4 : decode cL_law 4 = .ok (.invokespecial 9, 3) := by decide +kernel
theorem dL_law_7 : decode cL_law 7 = .ok (.astore_n 1, 1) := by decide +kernel
theorem dL_law_8 : decode cL_law 8 = .ok (.new 10, 3) := by decide +kernel
theorem dL_law_11 : decode cL_law 11 = .ok (.dup, 1) := by decide +kernel
theorem dL_law_12 : decode cL_law 12 = .ok (.invokespecial 12, 3) := by decide +kernel
theorem dL_law_15 : decode cL_law 15 = .ok (.astore_n 2, 1) := by decide +kernel
theorem dL_law_16 : decode cL_law 16 = .ok (.iconst 0, 1) := by decide +kernel
theorem dL_law_17 : decode cL_law 17 = .ok (.istore_n 3, 1) := by decide +kernel
theorem dL_law_18 : decode cL_law 18 = .ok (.iload_n 3, 1) := by decide +kernel
theorem dL_law_19 : decode cL_law 19 = .ok (.aload_n 0, 1) := by decide +kernel
theorem dL_law_20 : decode cL_law 20 = .ok (.arraylength, 1) := by decide +kernel
theorem dL_law_21 : decode cL_law 21 = .ok (.bipush 6, 2) := by decide +kernel
theorem dL_law_23 : decode cL_law 23 = .ok (.isub, 1) := by decide +kernel
theorem dL_law_24 : decode cL_law 24 = .ok (.if_icmp .gt 1086, 3) := by decide +kernel
theorem dL_law_27 : decode cL_law 27 = .ok (.aload_n 0, 1) := by decide +kernel
theorem dL_law_28 : decode cL_law 28 = .ok (.iload_n 3, 1) := by decide +kernel
theorem dL_law_29 : decode cL_law 29 = .ok (.iaload, 1) := by decide +kernel
theorem dL_law_30 : decode cL_law 30 = .ok (.bipush 31, 2) := by decide +kernel
theorem dL_law_32 : decode cL_law 32 = .ok (.iand, 1) := by decide +kernel
theorem dL_law_33 : decode cL_law 33 = .ok (.tableswitch 1071 0 31 #[143, 166, 179, 192, 205, 238, 271, 304, 337, 370, 393, 436, 469, 492, 515, 528, 551, 574, 598, 631, 654, 687, 720, 743, 786, 829, 852, 905, 948, 1011, 1034, 1057], 143) := by decide +kernel
theorem dL_law_176 : decode cL_law 176 = .ok (.aload_n 1, 1) := by decide +kernel
theorem dL_law_177 : decode cL_law 177 = .ok (.aload_n 0, 1) := by decide +kernel
theorem dL_law_178 : decode cL_law 178 = .ok (.iload_n 3, 1) := by decide +kernel
theorem dL_law_179 : decode cL_law 179 = .ok (.iconst 1, 1) := by decide +kernel
theorem dL_law_180 : decode cL_law 180 = .ok (.iadd, 1) := by decide +kernel
theorem dL_law_181 : decode cL_law 181 = .ok (.iaload, 1) := by decide +kernel
theorem dL_law_182 : decode cL_law 182 = .ok (.invokevirtual 13, 3) := by decide +kernel
theorem dL_law_185 : decode cL_law 185 = .ok (.aload_n 2, 1) := by decide +kernel
theorem dL_law_186 : decode cL_law 186 = .ok (.aload_n 0, 1) := by decide +kernel
theorem dL_law_187 : decode cL_law 187 = .ok (.iload_n 3, 1) := by decide +kernel
theorem dL_law_188 : decode cL_law 188 = .ok (.iconst 1, 1) := by decide +kernel
theorem dL_law_189 : decode cL_law 189 = .ok (.iadd, 1) := by decide +kernel
theorem dL_law_190 : decode cL_law 190 = .ok (.iaload, 1) := by decide +kernel
theorem dL_law_191 : decode cL_law 191 = .ok (.invokevirtual 17, 3) := by decide +kernel
theorem dL_law_194 : decode cL_law 194 = .ok (.if_icmp .eq 910, 3) := by decide +kernel
theorem dL_law_197 : decode cL_law 197 = .ok (.iconst 0, 1) := by decide +kernel
theorem dL_law_198 : decode cL_law 198 = .ok (.ireturn, 1) := by decide +kernel
theorem dL_law_199 : decode cL_law 199 = .ok (.aload_n 1, 1) := by decide +kernel
theorem dL_law_200 : decode cL_law 200 = .ok (.invokevirtual 18, 3) := by decide +kernel
theorem dL_law_203 : decode cL_law 203 = .ok (.aload_n 2, 1) := by decide +kernel
theorem dL_law_204 : decode cL_law 204 = .ok (.invokevirtual 22, 3) := by decide +kernel
theorem dL_law_207 : decode cL_law 207 = .ok (.if_icmp .eq 897, 3) := by decide +kernel
theorem dL_law_210 : decode cL_law 210 = .ok (.iconst 0, 1) := by decide +kernel
theorem dL_law_211 : decode cL_law 211 = .ok (.ireturn, 1) := by decide +kernel
theorem dL_law_212 : decode cL_law 212 = .ok (.aload_n 1, 1) := by decide +kernel
theorem dL_law_213 : decode cL_law 213 = .ok (.invokevirtual 23, 3) := by decide +kernel
theorem dL_law_216 : decode cL_law 216 = .ok (.aload_n 2, 1) := by decide +kernel
theorem dL_law_217 : decode cL_law 217 = .ok (.invokevirtual 26, 3) := by decide +kernel
theorem dL_law_220 : decode cL_law 220 = .ok (.if_icmp .eq 884, 3) := by decide +kernel
theorem dL_law_223 : decode cL_law 223 = .ok (.iconst 0, 1) := by decide +kernel
theorem dL_law_224 : decode cL_law 224 = .ok (.ireturn, 1) := by decide +kernel
theorem dL_law_225 : decode cL_law 225 = .ok (.aload_n 1, 1) := by decide +kernel
theorem dL_law_226 : decode cL_law 226 = .ok (.invokevirtual 27, 3) := by decide +kernel
theorem dL_law_229 : decode cL_law 229 = .ok (.aload_n 2, 1) := by decide +kernel
theorem dL_law_230 : decode cL_law 230 = .ok (.invokevirtual 30, 3) := by decide +kernel
theorem dL_law_233 : decode cL_law 233 = .ok (.if_icmp .eq 871, 3) := by decide +kernel
theorem dL_law_236 : decode cL_law 236 = .ok (.iconst 0, 1) := by decide +kernel
theorem dL_law_237 : decode cL_law 237 = .ok (.ireturn, 1) := by decide +kernel
theorem dL_law_238 : decode cL_law 238 = .ok (.aload_n 1, 1) := by decide +kernel
theorem dL_law_239 : decode cL_law 239 = .ok (.aload_n 0, 1) := by decide +kernel
theorem dL_law_240 : decode cL_law 240 = .ok (.iload_n 3, 1) := by decide +kernel
theorem dL_law_241 : decode cL_law 241 = .ok (.iconst 1, 1) := by decide +kernel
theorem dL_law_242 : decode cL_law 242 = .ok (.iadd, 1) := by decide +kernel
theorem dL_law_243 : decode cL_law 243 = .ok (.iaload, 1) := by decide +kernel
theorem dL_law_244 : decode cL_law 244 = .ok (.aload_n 0, 1) := by decide +kernel
theorem dL_law_245 : decode cL_law 245 = .ok (.iload_n 3, 1) := by decide +kernel
theorem dL_law_246 : decode cL_law 246 = .ok (.iconst 2, 1) := by decide +kernel
theorem dL_law_247 : decode cL_law 247 = .ok (.iadd, 1) := by decide +kernel
theorem dL_law_248 : decode cL_law 248 = .ok (.iaload, 1) := by decide +kernel
theorem dL_law_249 : decode cL_law 249 = .ok (.invokevirtual 31, 3) := by decide +kernel
theorem dL_law_252 : decode cL_law 252 = .ok (.aload_n 2, 1) := by decide +kernel
theorem dL_law_253 : decode cL_law 253 = .ok (.aload_n 0, 1) := by decide +kernel
theorem dL_law_254 : decode cL_law 254 = .ok (.iload_n 3, 1) := by decide +kernel
theorem dL_law_255 : decode cL_law 255 = .ok (.iconst 1, 1) := by decide +kernel
theorem dL_law_256 : decode cL_law 256 = .ok (.iadd, 1) := by decide +kernel
theorem dL_law_257 : decode cL_law 257 = .ok (.iaload, 1) := by decide +kernel
theorem dL_law_258 : decode cL_law 258 = .ok (.aload_n 0, 1) := by decide +kernel
theorem dL_law_259 : decode cL_law 259 = .ok (.iload_n 3, 1) := by decide +kernel
theorem dL_law_260 : decode cL_law 260 = .ok (.iconst 2, 1) := by decide +kernel
theorem dL_law_261 : decode cL_law 261 = .ok (.iadd, 1) := by decide +kernel
theorem dL_law_262 : decode cL_law 262 = .ok (.iaload, 1) := by decide +kernel
theorem dL_law_263 : decode cL_law 263 = .ok (.invokevirtual 35, 3) := by decide +kernel
theorem dL_law_266 : decode cL_law 266 = .ok (.if_icmp .eq 838, 3) := by decide +kernel
theorem dL_law_269 : decode cL_law 269 = .ok (.iconst 0, 1) := by decide +kernel
theorem dL_law_270 : decode cL_law 270 = .ok (.ireturn, 1) := by decide +kernel
theorem dL_law_271 : decode cL_law 271 = .ok (.aload_n 1, 1) := by decide +kernel
theorem dL_law_272 : decode cL_law 272 = .ok (.aload_n 0, 1) := by decide +kernel
theorem dL_law_273 : decode cL_law 273 = .ok (.iload_n 3, 1) := by decide +kernel
theorem dL_law_274 : decode cL_law 274 = .ok (.iconst 1, 1) := by decide +kernel
theorem dL_law_275 : decode cL_law 275 = .ok (.iadd, 1) := by decide +kernel
theorem dL_law_276 : decode cL_law 276 = .ok (.iaload, 1) := by decide +kernel
theorem dL_law_277 : decode cL_law 277 = .ok (.aload_n 0, 1) := by decide +kernel
theorem dL_law_278 : decode cL_law 278 = .ok (.iload_n 3, 1) := by decide +kernel
theorem dL_law_279 : decode cL_law 279 = .ok (.iconst 2, 1) := by decide +kernel
theorem dL_law_280 : decode cL_law 280 = .ok (.iadd, 1) := by decide +kernel
theorem dL_law_281 : decode cL_law 281 = .ok (.iaload, 1) := by decide +kernel
theorem dL_law_282 : decode cL_law 282 = .ok (.invokevirtual 36, 3) := by decide +kernel
theorem dL_law_285 : decode cL_law 285 = .ok (.aload_n 2, 1) := by decide +kernel
theorem dL_law_286 : decode cL_law 286 = .ok (.aload_n 0, 1) := by decide +kernel
theorem dL_law_287 : decode cL_law 287 = .ok (.iload_n 3, 1) := by decide +kernel
theorem dL_law_288 : decode cL_law 288 = .ok (.iconst 1, 1) := by decide +kernel
theorem dL_law_289 : decode cL_law 289 = .ok (.iadd, 1) := by decide +kernel
theorem dL_law_290 : decode cL_law 290 = .ok (.iaload, 1) := by decide +kernel
theorem dL_law_291 : decode cL_law 291 = .ok (.aload_n 0, 1) := by decide +kernel
theorem dL_law_292 : decode cL_law 292 = .ok (.iload_n 3, 1) := by decide +kernel
theorem dL_law_293 : decode cL_law 293 = .ok (.iconst 2, 1) := by decide +kernel
theorem dL_law_294 : decode cL_law 294 = .ok (.iadd, 1) := by decide +kernel
theorem dL_law_295 : decode cL_law 295 = .ok (.iaload, 1) := by decide +kernel
theorem dL_law_296 : decode cL_law 296 = .ok (.invokevirtual 39, 3) := by decide +kernel
theorem dL_law_299 : decode cL_law 299 = .ok (.if_icmp .eq 805, 3) := by decide +kernel
theorem dL_law_302 : decode cL_law 302 = .ok (.iconst 0, 1) := by decide +kernel
theorem dL_law_303 : decode cL_law 303 = .ok (.ireturn, 1) := by decide +kernel
theorem dL_law_304 : decode cL_law 304 = .ok (.aload_n 1, 1) := by decide +kernel
theorem dL_law_305 : decode cL_law 305 = .ok (.aload_n 0, 1) := by decide +kernel
theorem dL_law_306 : decode cL_law 306 = .ok (.iload_n 3, 1) := by decide +kernel
theorem dL_law_307 : decode cL_law 307 = .ok (.iconst 1, 1) := by decide +kernel
theorem dL_law_308 : decode cL_law 308 = .ok (.iadd, 1) := by decide +kernel
theorem dL_law_309 : decode cL_law 309 = .ok (.iaload, 1) := by decide +kernel
theorem dL_law_310 : decode cL_law 310 = .ok (.aload_n 0, 1) := by decide +kernel
theorem dL_law_311 : decode cL_law 311 = .ok (.iload_n 3, 1) := by decide +kernel
theorem dL_law_312 : decode cL_law 312 = .ok (.iconst 2, 1) := by decide +kernel
theorem dL_law_313 : decode cL_law 313 = .ok (.iadd, 1) := by decide +kernel
theorem dL_law_314 : decode cL_law 314 = .ok (.iaload, 1) := by decide +kernel
theorem dL_law_315 : decode cL_law 315 = .ok (.invokevirtual 40, 3) := by decide +kernel
theorem dL_law_318 : decode cL_law 318 = .ok (.aload_n 2, 1) := by decide +kernel
theorem dL_law_319 : decode cL_law 319 = .ok (.aload_n 0, 1) := by decide +kernel
theorem dL_law_320 : decode cL_law 320 = .ok (.iload_n 3, 1) := by decide +kernel
theorem dL_law_321 : decode cL_law 321 = .ok (.iconst 1, 1) := by decide +kernel
theorem dL_law_322 : decode cL_law 322 = .ok (.iadd, 1) := by decide +kernel
theorem dL_law_323 : decode cL_law 323 = .ok (.iaload, 1) := by decide +kernel
theorem dL_law_324 : decode cL_law 324 = .ok (.aload_n 0, 1) := by decide +kernel
theorem dL_law_325 : decode cL_law 325 = .ok (.iload_n 3, 1) := by decide +kernel
theorem dL_law_326 : decode cL_law 326 = .ok (.iconst 2, 1) := by decide +kernel
theorem dL_law_327 : decode cL_law 327 = .ok (.iadd, 1) := by decide +kernel
theorem dL_law_328 : decode cL_law 328 = .ok (.iaload, 1) := by decide +kernel
theorem dL_law_329 : decode cL_law 329 = .ok (.invokevirtual 43, 3) := by decide +kernel
theorem dL_law_332 : decode cL_law 332 = .ok (.if_icmp .eq 772, 3) := by decide +kernel
theorem dL_law_335 : decode cL_law 335 = .ok (.iconst 0, 1) := by decide +kernel
theorem dL_law_336 : decode cL_law 336 = .ok (.ireturn, 1) := by decide +kernel
theorem dL_law_337 : decode cL_law 337 = .ok (.aload_n 1, 1) := by decide +kernel
theorem dL_law_338 : decode cL_law 338 = .ok (.aload_n 0, 1) := by decide +kernel
theorem dL_law_339 : decode cL_law 339 = .ok (.iload_n 3, 1) := by decide +kernel
theorem dL_law_340 : decode cL_law 340 = .ok (.iconst 1, 1) := by decide +kernel
theorem dL_law_341 : decode cL_law 341 = .ok (.iadd, 1) := by decide +kernel
theorem dL_law_342 : decode cL_law 342 = .ok (.iaload, 1) := by decide +kernel
theorem dL_law_343 : decode cL_law 343 = .ok (.aload_n 0, 1) := by decide +kernel
theorem dL_law_344 : decode cL_law 344 = .ok (.iload_n 3, 1) := by decide +kernel
theorem dL_law_345 : decode cL_law 345 = .ok (.iconst 2, 1) := by decide +kernel
theorem dL_law_346 : decode cL_law 346 = .ok (.iadd, 1) := by decide +kernel
theorem dL_law_347 : decode cL_law 347 = .ok (.iaload, 1) := by decide +kernel
theorem dL_law_348 : decode cL_law 348 = .ok (.invokevirtual 44, 3) := by decide +kernel
theorem dL_law_351 : decode cL_law 351 = .ok (.aload_n 2, 1) := by decide +kernel
theorem dL_law_352 : decode cL_law 352 = .ok (.aload_n 0, 1) := by decide +kernel
theorem dL_law_353 : decode cL_law 353 = .ok (.iload_n 3, 1) := by decide +kernel
theorem dL_law_354 : decode cL_law 354 = .ok (.iconst 1, 1) := by decide +kernel
theorem dL_law_355 : decode cL_law 355 = .ok (.iadd, 1) := by decide +kernel
theorem dL_law_356 : decode cL_law 356 = .ok (.iaload, 1) := by decide +kernel
theorem dL_law_357 : decode cL_law 357 = .ok (.aload_n 0, 1) := by decide +kernel
theorem dL_law_358 : decode cL_law 358 = .ok (.iload_n 3, 1) := by decide +kernel
theorem dL_law_359 : decode cL_law 359 = .ok (.iconst 2, 1) := by decide +kernel
theorem dL_law_360 : decode cL_law 360 = .ok (.iadd, 1) := by decide +kernel
theorem dL_law_361 : decode cL_law 361 = .ok (.iaload, 1) := by decide +kernel
theorem dL_law_362 : decode cL_law 362 = .ok (.invokevirtual 47, 3) := by decide +kernel
theorem dL_law_365 : decode cL_law 365 = .ok (.if_icmp .eq 739, 3) := by decide +kernel
theorem dL_law_368 : decode cL_law 368 = .ok (.iconst 0, 1) := by decide +kernel
theorem dL_law_369 : decode cL_law 369 = .ok (.ireturn, 1) := by decide +kernel
theorem dL_law_370 : decode cL_law 370 = .ok (.aload_n 1, 1) := by decide +kernel
theorem dL_law_371 : decode cL_law 371 = .ok (.aload_n 0, 1) := by decide +kernel
theorem dL_law_372 : decode cL_law 372 = .ok (.iload_n 3, 1) := by decide +kernel
theorem dL_law_373 : decode cL_law 373 = .ok (.iconst 1, 1) := by decide +kernel
theorem dL_law_374 : decode cL_law 374 = .ok (.iadd, 1) := by decide +kernel
theorem dL_law_375 : decode cL_law 375 = .ok (.iaload, 1) := by decide +kernel
theorem dL_law_376 : decode cL_law 376 = .ok (.aload_n 0, 1) := by decide +kernel
theorem dL_law_377 : decode cL_law 377 = .ok (.iload_n 3, 1) := by decide +kernel
theorem dL_law_378 : decode cL_law 378 = .ok (.iconst 2, 1) := by decide +kernel
theorem dL_law_379 : decode cL_law 379 = .ok (.iadd, 1) := by decide +kernel
theorem dL_law_380 : decode cL_law 380 = .ok (.iaload, 1) := by decide +kernel
theorem dL_law_381 : decode cL_law 381 = .ok (.invokevirtual 48, 3) := by decide +kernel
theorem dL_law_384 : decode cL_law 384 = .ok (.aload_n 2, 1) := by decide +kernel
theorem dL_law_385 : decode cL_law 385 = .ok (.aload_n 0, 1) := by decide +kernel
theorem dL_law_386 : decode cL_law 386 = .ok (.iload_n 3, 1) := by decide +kernel
theorem dL_law_387 : decode cL_law 387 = .ok (.iconst 1, 1) := by decide +kernel
theorem dL_law_388 : decode cL_law 388 = .ok (.iadd, 1) := by decide +kernel
theorem dL_law_389 : decode cL_law 389 = .ok (.iaload, 1) := by decide +kernel
theorem dL_law_390 : decode cL_law 390 = .ok (.aload_n 0, 1) := by decide +kernel
theorem dL_law_391 : decode cL_law 391 = .ok (.iload_n 3, 1) := by decide +kernel
theorem dL_law_392 : decode cL_law 392 = .ok (.iconst 2, 1) := by decide +kernel
theorem dL_law_393 : decode cL_law 393 = .ok (.iadd, 1) := by decide +kernel
theorem dL_law_394 : decode cL_law 394 = .ok (.iaload, 1) := by decide +kernel
theorem dL_law_395 : decode cL_law 395 = .ok (.invokevirtual 51, 3) := by decide +kernel
theorem dL_law_398 : decode cL_law 398 = .ok (.if_icmp .eq 706, 3) := by decide +kernel
theorem dL_law_401 : decode cL_law 401 = .ok (.iconst 0, 1) := by decide +kernel
theorem dL_law_402 : decode cL_law 402 = .ok (.ireturn, 1) := by decide +kernel
theorem dL_law_403 : decode cL_law 403 = .ok (.aload_n 1, 1) := by decide +kernel
theorem dL_law_404 : decode cL_law 404 = .ok (.aload_n 0, 1) := by decide +kernel
theorem dL_law_405 : decode cL_law 405 = .ok (.iload_n 3, 1) := by decide +kernel
theorem dL_law_406 : decode cL_law 406 = .ok (.iconst 1, 1) := by decide +kernel
theorem dL_law_407 : decode cL_law 407 = .ok (.iadd, 1) := by decide +kernel
theorem dL_law_408 : decode cL_law 408 = .ok (.iaload, 1) := by decide +kernel
theorem dL_law_409 : decode cL_law 409 = .ok (.invokevirtual 52, 3) := by decide +kernel
theorem dL_law_412 : decode cL_law 412 = .ok (.aload_n 2, 1) := by decide +kernel
theorem dL_law_413 : decode cL_law 413 = .ok (.aload_n 0, 1) := by decide +kernel
theorem dL_law_414 : decode cL_law 414 = .ok (.iload_n 3, 1) := by decide +kernel
theorem dL_law_415 : decode cL_law 415 = .ok (.iconst 1, 1) := by decide +kernel
theorem dL_law_416 : decode cL_law 416 = .ok (.iadd, 1) := by decide +kernel
theorem dL_law_417 : decode cL_law 417 = .ok (.iaload, 1) := by decide +kernel
theorem dL_law_418 : decode cL_law 418 = .ok (.invokevirtual 55, 3) := by decide +kernel
theorem dL_law_421 : decode cL_law 421 = .ok (.if_icmp .eq 683, 3) := by decide +kernel
theorem dL_law_424 : decode cL_law 424 = .ok (.iconst 0, 1) := by decide +kernel
theorem dL_law_425 : decode cL_law 425 = .ok (.ireturn, 1) := by decide +kernel
theorem dL_law_426 : decode cL_law 426 = .ok (.aload_n 1, 1) := by decide +kernel
theorem dL_law_427 : decode cL_law 427 = .ok (.aload_n 0, 1) := by decide +kernel
theorem dL_law_428 : decode cL_law 428 = .ok (.iload_n 3, 1) := by decide +kernel
theorem dL_law_429 : decode cL_law 429 = .ok (.iconst 1, 1) := by decide +kernel
theorem dL_law_430 : decode cL_law 430 = .ok (.iadd, 1) := by decide +kernel
theorem dL_law_431 : decode cL_law 431 = .ok (.iaload, 1) := by decide +kernel
theorem dL_law_432 : decode cL_law 432 = .ok (.aload_n 0, 1) := by decide +kernel
theorem dL_law_433 : decode cL_law 433 = .ok (.iload_n 3, 1) := by decide +kernel
theorem dL_law_434 : decode cL_law 434 = .ok (.iconst 2, 1) := by decide +kernel
theorem dL_law_435 : decode cL_law 435 = .ok (.iadd, 1) := by decide +kernel
theorem dL_law_436 : decode cL_law 436 = .ok (.iaload, 1) := by decide +kernel
theorem dL_law_437 : decode cL_law 437 = .ok (.aload_n 0, 1) := by decide +kernel
theorem dL_law_438 : decode cL_law 438 = .ok (.iload_n 3, 1) := by decide +kernel
theorem dL_law_439 : decode cL_law 439 = .ok (.iconst 3, 1) := by decide +kernel
theorem dL_law_440 : decode cL_law 440 = .ok (.iadd, 1) := by decide +kernel
theorem dL_law_441 : decode cL_law 441 = .ok (.iaload, 1) := by decide +kernel
theorem dL_law_442 : decode cL_law 442 = .ok (.invokevirtual 56, 3) := by decide +kernel
theorem dL_law_445 : decode cL_law 445 = .ok (.aload_n 2, 1) := by decide +kernel
theorem dL_law_446 : decode cL_law 446 = .ok (.aload_n 0, 1) := by decide +kernel
theorem dL_law_447 : decode cL_law 447 = .ok (.iload_n 3, 1) := by decide +kernel
theorem dL_law_448 : decode cL_law 448 = .ok (.iconst 1, 1) := by decide +kernel
theorem dL_law_449 : decode cL_law 449 = .ok (.iadd, 1) := by decide +kernel
theorem dL_law_450 : decode cL_law 450 = .ok (.iaload, 1) := by decide +kernel
theorem dL_law_451 : decode cL_law 451 = .ok (.aload_n 0, 1) := by decide +kernel
theorem dL_law_452 : decode cL_law 452 = .ok (.iload_n 3, 1) := by decide +kernel
theorem dL_law_453 : decode cL_law 453 = .ok (.iconst 2, 1) := by decide +kernel
theorem dL_law_454 : decode cL_law 454 = .ok (.iadd, 1) := by decide +kernel
theorem dL_law_455 : decode cL_law 455 = .ok (.iaload, 1) := by decide +kernel
theorem dL_law_456 : decode cL_law 456 = .ok (.aload_n 0, 1) := by decide +kernel
theorem dL_law_457 : decode cL_law 457 = .ok (.iload_n 3, 1) := by decide +kernel
theorem dL_law_458 : decode cL_law 458 = .ok (.iconst 3, 1) := by decide +kernel
theorem dL_law_459 : decode cL_law 459 = .ok (.iadd, 1) := by decide +kernel
theorem dL_law_460 : decode cL_law 460 = .ok (.iaload, 1) := by decide +kernel
theorem dL_law_461 : decode cL_law 461 = .ok (.invokevirtual 60, 3) := by decide +kernel
theorem dL_law_464 : decode cL_law 464 = .ok (.if_icmp .eq 640, 3) := by decide +kernel
theorem dL_law_467 : decode cL_law 467 = .ok (.iconst 0, 1) := by decide +kernel
theorem dL_law_468 : decode cL_law 468 = .ok (.ireturn, 1) := by decide +kernel
theorem dL_law_469 : decode cL_law 469 = .ok (.aload_n 1, 1) := by decide +kernel
theorem dL_law_470 : decode cL_law 470 = .ok (.aload_n 0, 1) := by decide +kernel
theorem dL_law_471 : decode cL_law 471 = .ok (.iload_n 3, 1) := by decide +kernel
theorem dL_law_472 : decode cL_law 472 = .ok (.iconst 1, 1) := by decide +kernel
theorem dL_law_473 : decode cL_law 473 = .ok (.iadd, 1) := by decide +kernel
theorem dL_law_474 : decode cL_law 474 = .ok (.iaload, 1) := by decide +kernel
theorem dL_law_475 : decode cL_law 475 = .ok (.aload_n 0, 1) := by decide +kernel
theorem dL_law_476 : decode cL_law 476 = .ok (.iload_n 3, 1) := by decide +kernel
theorem dL_law_477 : decode cL_law 477 = .ok (.iconst 2, 1) := by decide +kernel
theorem dL_law_478 : decode cL_law 478 = .ok (.iadd, 1) := by decide +kernel
theorem dL_law_479 : decode cL_law 479 = .ok (.iaload, 1) := by decide +kernel
theorem dL_law_480 : decode cL_law 480 = .ok (.invokevirtual 61, 3) := by decide +kernel
theorem dL_law_483 : decode cL_law 483 = .ok (.aload_n 2, 1) := by decide +kernel
theorem dL_law_484 : decode cL_law 484 = .ok (.aload_n 0, 1) := by decide +kernel
theorem dL_law_485 : decode cL_law 485 = .ok (.iload_n 3, 1) := by decide +kernel
theorem dL_law_486 : decode cL_law 486 = .ok (.iconst 1, 1) := by decide +kernel
theorem dL_law_487 : decode cL_law 487 = .ok (.iadd, 1) := by decide +kernel
theorem dL_law_488 : decode cL_law 488 = .ok (.iaload, 1) := by decide +kernel
theorem dL_law_489 : decode cL_law 489 = .ok (.aload_n 0, 1) := by decide +kernel
theorem dL_law_490 : decode cL_law 490 = .ok (.iload_n 3, 1) := by decide +kernel
theorem dL_law_491 : decode cL_law 491 = .ok (.iconst 2, 1) := by decide +kernel
theorem dL_law_492 : decode cL_law 492 = .ok (.iadd, 1) := by decide +kernel
theorem dL_law_493 : decode cL_law 493 = .ok (.iaload, 1) := by decide +kernel
theorem dL_law_494 : decode cL_law 494 = .ok (.invokevirtual 64, 3) := by decide +kernel
theorem dL_law_497 : decode cL_law 497 = .ok (.if_icmp .eq 607, 3) := by decide +kernel
theorem dL_law_500 : decode cL_law 500 = .ok (.iconst 0, 1) := by decide +kernel
theorem dL_law_501 : decode cL_law 501 = .ok (.ireturn, 1) := by decide +kernel
theorem dL_law_502 : decode cL_law 502 = .ok (.aload_n 1, 1) := by decide +kernel
theorem dL_law_503 : decode cL_law 503 = .ok (.aload_n 0, 1) := by decide +kernel
theorem dL_law_504 : decode cL_law 504 = .ok (.iload_n 3, 1) := by decide +kernel
theorem dL_law_505 : decode cL_law 505 = .ok (.iconst 1, 1) := by decide +kernel
theorem dL_law_506 : decode cL_law 506 = .ok (.iadd, 1) := by decide +kernel
theorem dL_law_507 : decode cL_law 507 = .ok (.iaload, 1) := by decide +kernel
theorem dL_law_508 : decode cL_law 508 = .ok (.invokevirtual 65, 3) := by decide +kernel
theorem dL_law_511 : decode cL_law 511 = .ok (.aload_n 2, 1) := by decide +kernel
theorem dL_law_512 : decode cL_law 512 = .ok (.aload_n 0, 1) := by decide +kernel
theorem dL_law_513 : decode cL_law 513 = .ok (.iload_n 3, 1) := by decide +kernel
theorem dL_law_514 : decode cL_law 514 = .ok (.iconst 1, 1) := by decide +kernel
theorem dL_law_515 : decode cL_law 515 = .ok (.iadd, 1) := by decide +kernel
theorem dL_law_516 : decode cL_law 516 = .ok (.iaload, 1) := by decide +kernel
theorem dL_law_517 : decode cL_law 517 = .ok (.invokevirtual 68, 3) := by decide +kernel
theorem dL_law_520 : decode cL_law 520 = .ok (.if_icmp .eq 584, 3) := by decide +kernel
theorem dL_law_523 : decode cL_law 523 = .ok (.iconst 0, 1) := by decide +kernel
theorem dL_law_524 : decode cL_law 524 = .ok (.ireturn, 1) := by decide +kernel
theorem dL_law_525 : decode cL_law 525 = .ok (.aload_n 1, 1) := by decide +kernel
theorem dL_law_526 : decode cL_law 526 = .ok (.aload_n 0, 1) := by decide +kernel
theorem dL_law_527 : decode cL_law 527 = .ok (.iload_n 3, 1) := by decide +kernel
theorem dL_law_528 : decode cL_law 528 = .ok (.iconst 1, 1) := by decide +kernel
theorem dL_law_529 : decode cL_law 529 = .ok (.iadd, 1) := by decide +kernel
theorem dL_law_530 : decode cL_law 530 = .ok (.iaload, 1) := by decide +kernel
theorem dL_law_531 : decode cL_law 531 = .ok (.invokevirtual 69, 3) := by decide +kernel
theorem dL_law_534 : decode cL_law 534 = .ok (.aload_n 2, 1) := by decide +kernel
theorem dL_law_535 : decode cL_law 535 = .ok (.aload_n 0, 1) := by decide +kernel
theorem dL_law_536 : decode cL_law 536 = .ok (.iload_n 3, 1) := by decide +kernel
theorem dL_law_537 : decode cL_law 537 = .ok (.iconst 1, 1) := by decide +kernel
theorem dL_law_538 : decode cL_law 538 = .ok (.iadd, 1) := by decide +kernel
theorem dL_law_539 : decode cL_law 539 = .ok (.iaload, 1) := by decide +kernel
theorem dL_law_540 : decode cL_law 540 = .ok (.invokevirtual 72, 3) := by decide +kernel
theorem dL_law_543 : decode cL_law 543 = .ok (.if_icmp .eq 561, 3) := by decide +kernel
theorem dL_law_546 : decode cL_law 546 = .ok (.iconst 0, 1) := by decide +kernel
theorem dL_law_547 : decode cL_law 547 = .ok (.ireturn, 1) := by decide +kernel
theorem dL_law_548 : decode cL_law 548 = .ok (.aload_n 1, 1) := by decide +kernel
theorem dL_law_549 : decode cL_law 549 = .ok (.invokevirtual 73, 3) := by decide +kernel
theorem dL_law_552 : decode cL_law 552 = .ok (.aload_n 2, 1) := by decide +kernel
theorem dL_law_553 : decode cL_law 553 = .ok (.invokevirtual 76, 3) := by decide +kernel
theorem dL_law_556 : decode cL_law 556 = .ok (.if_icmp .eq 548, 3) := by decide +kernel
theorem dL_law_559 : decode cL_law 559 = .ok (.iconst 0, 1) := by decide +kernel
theorem dL_law_560 : decode cL_law 560 = .ok (.ireturn, 1) := by decide +kernel
theorem dL_law_561 : decode cL_law 561 = .ok (.aload_n 1, 1) := by decide +kernel
theorem dL_law_562 : decode cL_law 562 = .ok (.aload_n 0, 1) := by decide +kernel
theorem dL_law_563 : decode cL_law 563 = .ok (.iload_n 3, 1) := by decide +kernel
theorem dL_law_564 : decode cL_law 564 = .ok (.iconst 1, 1) := by decide +kernel
theorem dL_law_565 : decode cL_law 565 = .ok (.iadd, 1) := by decide +kernel
theorem dL_law_566 : decode cL_law 566 = .ok (.iaload, 1) := by decide +kernel
theorem dL_law_567 : decode cL_law 567 = .ok (.invokevirtual 77, 3) := by decide +kernel
theorem dL_law_570 : decode cL_law 570 = .ok (.aload_n 2, 1) := by decide +kernel
theorem dL_law_571 : decode cL_law 571 = .ok (.aload_n 0, 1) := by decide +kernel
theorem dL_law_572 : decode cL_law 572 = .ok (.iload_n 3, 1) := by decide +kernel
theorem dL_law_573 : decode cL_law 573 = .ok (.iconst 1, 1) := by decide +kernel
theorem dL_law_574 : decode cL_law 574 = .ok (.iadd, 1) := by decide +kernel
theorem dL_law_575 : decode cL_law 575 = .ok (.iaload, 1) := by decide +kernel
theorem dL_law_576 : decode cL_law 576 = .ok (.invokevirtual 80, 3) := by decide +kernel
theorem dL_law_579 : decode cL_law 579 = .ok (.if_icmp .eq 525, 3) := by decide +kernel
theorem dL_law_582 : decode cL_law 582 = .ok (.iconst 0, 1) := by decide +kernel
theorem dL_law_583 : decode cL_law 583 = .ok (.ireturn, 1) := by decide +kernel
theorem dL_law_584 : decode cL_law 584 = .ok (.aload_n 1, 1) := by decide +kernel
theorem dL_law_585 : decode cL_law 585 = .ok (.aload_n 0, 1) := by decide +kernel
theorem dL_law_586 : decode cL_law 586 = .ok (.iload_n 3, 1) := by decide +kernel
theorem dL_law_587 : decode cL_law 587 = .ok (.iconst 1, 1) := by decide +kernel
theorem dL_law_588 : decode cL_law 588 = .ok (.iadd, 1) := by decide +kernel
theorem dL_law_589 : decode cL_law 589 = .ok (.iaload, 1) := by decide +kernel
theorem dL_law_590 : decode cL_law 590 = .ok (.invokevirtual 81, 3) := by decide +kernel
theorem dL_law_593 : decode cL_law 593 = .ok (.aload_n 2, 1) := by decide +kernel
theorem dL_law_594 : decode cL_law 594 = .ok (.aload_n 0, 1) := by decide +kernel
theorem dL_law_595 : decode cL_law 595 = .ok (.iload_n 3, 1) := by decide +kernel
theorem dL_law_596 : decode cL_law 596 = .ok (.iconst 1, 1) := by decide +kernel
theorem dL_law_597 : decode cL_law 597 = .ok (.iadd, 1) := by decide +kernel
theorem dL_law_598 : decode cL_law 598 = .ok (.iaload, 1) := by decide +kernel
theorem dL_law_599 : decode cL_law 599 = .ok (.invokevirtual 84, 3) := by decide +kernel
theorem dL_law_602 : decode cL_law 602 = .ok (.if_icmp .eq 502, 3) := by decide +kernel
theorem dL_law_605 : decode cL_law 605 = .ok (.iconst 0, 1) := by decide +kernel
theorem dL_law_606 : decode cL_law 606 = .ok (.ireturn, 1) := by decide +kernel
theorem dL_law_607 : decode cL_law 607 = .ok (.aload_n 1, 1) := by decide +kernel
theorem dL_law_608 : decode cL_law 608 = .ok (.aload_n 0, 1) := by decide +kernel
theorem dL_law_609 : decode cL_law 609 = .ok (.iload_n 3, 1) := by decide +kernel
theorem dL_law_610 : decode cL_law 610 = .ok (.iconst 1, 1) := by decide +kernel
theorem dL_law_611 : decode cL_law 611 = .ok (.iadd, 1) := by decide +kernel
theorem dL_law_612 : decode cL_law 612 = .ok (.iaload, 1) := by decide +kernel
theorem dL_law_613 : decode cL_law 613 = .ok (.invokevirtual 85, 3) := by decide +kernel
theorem dL_law_616 : decode cL_law 616 = .ok (.aload_n 2, 1) := by decide +kernel
theorem dL_law_617 : decode cL_law 617 = .ok (.aload_n 0, 1) := by decide +kernel
theorem dL_law_618 : decode cL_law 618 = .ok (.iload_n 3, 1) := by decide +kernel
theorem dL_law_619 : decode cL_law 619 = .ok (.iconst 1, 1) := by decide +kernel
theorem dL_law_620 : decode cL_law 620 = .ok (.iadd, 1) := by decide +kernel
theorem dL_law_621 : decode cL_law 621 = .ok (.iaload, 1) := by decide +kernel
theorem dL_law_622 : decode cL_law 622 = .ok (.invokevirtual 89, 3) := by decide +kernel
theorem dL_law_625 : decode cL_law 625 = .ok (.lcmp, 1) := by decide +kernel
theorem dL_law_626 : decode cL_law 626 = .ok (.ifCond .eq 478, 3) := by decide +kernel
theorem dL_law_629 : decode cL_law 629 = .ok (.iconst 0, 1) := by decide +kernel
theorem dL_law_630 : decode cL_law 630 = .ok (.ireturn, 1) := by decide +kernel
theorem dL_law_631 : decode cL_law 631 = .ok (.aload_n 1, 1) := by decide +kernel
theorem dL_law_632 : decode cL_law 632 = .ok (.aload_n 0, 1) := by decide +kernel
theorem dL_law_633 : decode cL_law 633 = .ok (.iload_n 3, 1) := by decide +kernel
theorem dL_law_634 : decode cL_law 634 = .ok (.iconst 1, 1) := by decide +kernel
theorem dL_law_635 : decode cL_law 635 = .ok (.iadd, 1) := by decide +kernel
theorem dL_law_636 : decode cL_law 636 = .ok (.iaload, 1) := by decide +kernel
theorem dL_law_637 : decode cL_law 637 = .ok (.aload_n 0, 1) := by decide +kernel
theorem dL_law_638 : decode cL_law 638 = .ok (.iload_n 3, 1) := by decide +kernel
theorem dL_law_639 : decode cL_law 639 = .ok (.iconst 2, 1) := by decide +kernel
theorem dL_law_640 : decode cL_law 640 = .ok (.iadd, 1) := by decide +kernel
theorem dL_law_641 : decode cL_law 641 = .ok (.iaload, 1) := by decide +kernel
theorem dL_law_642 : decode cL_law 642 = .ok (.invokevirtual 90, 3) := by decide +kernel
theorem dL_law_645 : decode cL_law 645 = .ok (.aload_n 2, 1) := by decide +kernel
theorem dL_law_646 : decode cL_law 646 = .ok (.aload_n 0, 1) := by decide +kernel
theorem dL_law_647 : decode cL_law 647 = .ok (.iload_n 3, 1) := by decide +kernel
theorem dL_law_648 : decode cL_law 648 = .ok (.iconst 1, 1) := by decide +kernel
theorem dL_law_649 : decode cL_law 649 = .ok (.iadd, 1) := by decide +kernel
theorem dL_law_650 : decode cL_law 650 = .ok (.iaload, 1) := by decide +kernel
theorem dL_law_651 : decode cL_law 651 = .ok (.aload_n 0, 1) := by decide +kernel
theorem dL_law_652 : decode cL_law 652 = .ok (.iload_n 3, 1) := by decide +kernel
theorem dL_law_653 : decode cL_law 653 = .ok (.iconst 2, 1) := by decide +kernel
theorem dL_law_654 : decode cL_law 654 = .ok (.iadd, 1) := by decide +kernel
theorem dL_law_655 : decode cL_law 655 = .ok (.iaload, 1) := by decide +kernel
theorem dL_law_656 : decode cL_law 656 = .ok (.invokevirtual 93, 3) := by decide +kernel
theorem dL_law_659 : decode cL_law 659 = .ok (.if_icmp .eq 445, 3) := by decide +kernel
theorem dL_law_662 : decode cL_law 662 = .ok (.iconst 0, 1) := by decide +kernel
theorem dL_law_663 : decode cL_law 663 = .ok (.ireturn, 1) := by decide +kernel
theorem dL_law_664 : decode cL_law 664 = .ok (.aload_n 1, 1) := by decide +kernel
theorem dL_law_665 : decode cL_law 665 = .ok (.aload_n 0, 1) := by decide +kernel
theorem dL_law_666 : decode cL_law 666 = .ok (.iload_n 3, 1) := by decide +kernel
theorem dL_law_667 : decode cL_law 667 = .ok (.iconst 1, 1) := by decide +kernel
theorem dL_law_668 : decode cL_law 668 = .ok (.iadd, 1) := by decide +kernel
theorem dL_law_669 : decode cL_law 669 = .ok (.iaload, 1) := by decide +kernel
theorem dL_law_670 : decode cL_law 670 = .ok (.invokevirtual 94, 3) := by decide +kernel
theorem dL_law_673 : decode cL_law 673 = .ok (.aload_n 2, 1) := by decide +kernel
theorem dL_law_674 : decode cL_law 674 = .ok (.aload_n 0, 1) := by decide +kernel
theorem dL_law_675 : decode cL_law 675 = .ok (.iload_n 3, 1) := by decide +kernel
theorem dL_law_676 : decode cL_law 676 = .ok (.iconst 1, 1) := by decide +kernel
theorem dL_law_677 : decode cL_law 677 = .ok (.iadd, 1) := by decide +kernel
theorem dL_law_678 : decode cL_law 678 = .ok (.iaload, 1) := by decide +kernel
theorem dL_law_679 : decode cL_law 679 = .ok (.invokevirtual 97, 3) := by decide +kernel
theorem dL_law_682 : decode cL_law 682 = .ok (.if_icmp .eq 422, 3) := by decide +kernel
theorem dL_law_685 : decode cL_law 685 = .ok (.iconst 0, 1) := by decide +kernel
theorem dL_law_686 : decode cL_law 686 = .ok (.ireturn, 1) := by decide +kernel
theorem dL_law_687 : decode cL_law 687 = .ok (.aload_n 1, 1) := by decide +kernel
theorem dL_law_688 : decode cL_law 688 = .ok (.aload_n 0, 1) := by decide +kernel
theorem dL_law_689 : decode cL_law 689 = .ok (.iload_n 3, 1) := by decide +kernel
theorem dL_law_690 : decode cL_law 690 = .ok (.iconst 1, 1) := by decide +kernel
theorem dL_law_691 : decode cL_law 691 = .ok (.iadd, 1) := by decide +kernel
theorem dL_law_692 : decode cL_law 692 = .ok (.iaload, 1) := by decide +kernel
theorem dL_law_693 : decode cL_law 693 = .ok (.aload_n 0, 1) := by decide +kernel
theorem dL_law_694 : decode cL_law 694 = .ok (.iload_n 3, 1) := by decide +kernel
theorem dL_law_695 : decode cL_law 695 = .ok (.iconst 2, 1) := by decide +kernel
theorem dL_law_696 : decode cL_law 696 = .ok (.iadd, 1) := by decide +kernel
theorem dL_law_697 : decode cL_law 697 = .ok (.iaload, 1) := by decide +kernel
theorem dL_law_698 : decode cL_law 698 = .ok (.invokevirtual 98, 3) := by decide +kernel
theorem dL_law_701 : decode cL_law 701 = .ok (.aload_n 2, 1) := by decide +kernel
theorem dL_law_702 : decode cL_law 702 = .ok (.aload_n 0, 1) := by decide +kernel
theorem dL_law_703 : decode cL_law 703 = .ok (.iload_n 3, 1) := by decide +kernel
theorem dL_law_704 : decode cL_law 704 = .ok (.iconst 1, 1) := by decide +kernel
theorem dL_law_705 : decode cL_law 705 = .ok (.iadd, 1) := by decide +kernel
theorem dL_law_706 : decode cL_law 706 = .ok (.iaload, 1) := by decide +kernel
theorem dL_law_707 : decode cL_law 707 = .ok (.aload_n 0, 1) := by decide +kernel
theorem dL_law_708 : decode cL_law 708 = .ok (.iload_n 3, 1) := by decide +kernel
theorem dL_law_709 : decode cL_law 709 = .ok (.iconst 2, 1) := by decide +kernel
theorem dL_law_710 : decode cL_law 710 = .ok (.iadd, 1) := by decide +kernel
theorem dL_law_711 : decode cL_law 711 = .ok (.iaload, 1) := by decide +kernel
theorem dL_law_712 : decode cL_law 712 = .ok (.invokevirtual 101, 3) := by decide +kernel
theorem dL_law_715 : decode cL_law 715 = .ok (.if_icmp .eq 389, 3) := by decide +kernel
theorem dL_law_718 : decode cL_law 718 = .ok (.iconst 0, 1) := by decide +kernel
theorem dL_law_719 : decode cL_law 719 = .ok (.ireturn, 1) := by decide +kernel
theorem dL_law_720 : decode cL_law 720 = .ok (.aload_n 1, 1) := by decide +kernel
theorem dL_law_721 : decode cL_law 721 = .ok (.aload_n 0, 1) := by decide +kernel
theorem dL_law_722 : decode cL_law 722 = .ok (.iload_n 3, 1) := by decide +kernel
theorem dL_law_723 : decode cL_law 723 = .ok (.iconst 1, 1) := by decide +kernel
theorem dL_law_724 : decode cL_law 724 = .ok (.iadd, 1) := by decide +kernel
theorem dL_law_725 : decode cL_law 725 = .ok (.iaload, 1) := by decide +kernel
theorem dL_law_726 : decode cL_law 726 = .ok (.aload_n 0, 1) := by decide +kernel
theorem dL_law_727 : decode cL_law 727 = .ok (.iload_n 3, 1) := by decide +kernel
theorem dL_law_728 : decode cL_law 728 = .ok (.iconst 2, 1) := by decide +kernel
theorem dL_law_729 : decode cL_law 729 = .ok (.iadd, 1) := by decide +kernel
theorem dL_law_730 : decode cL_law 730 = .ok (.iaload, 1) := by decide +kernel
theorem dL_law_731 : decode cL_law 731 = .ok (.invokevirtual 102, 3) := by decide +kernel
theorem dL_law_734 : decode cL_law 734 = .ok (.aload_n 2, 1) := by decide +kernel
theorem dL_law_735 : decode cL_law 735 = .ok (.aload_n 0, 1) := by decide +kernel
theorem dL_law_736 : decode cL_law 736 = .ok (.iload_n 3, 1) := by decide +kernel
theorem dL_law_737 : decode cL_law 737 = .ok (.iconst 1, 1) := by decide +kernel
theorem dL_law_738 : decode cL_law 738 = .ok (.iadd, 1) := by decide +kernel
theorem dL_law_739 : decode cL_law 739 = .ok (.iaload, 1) := by decide +kernel
theorem dL_law_740 : decode cL_law 740 = .ok (.aload_n 0, 1) := by decide +kernel
theorem dL_law_741 : decode cL_law 741 = .ok (.iload_n 3, 1) := by decide +kernel
theorem dL_law_742 : decode cL_law 742 = .ok (.iconst 2, 1) := by decide +kernel
theorem dL_law_743 : decode cL_law 743 = .ok (.iadd, 1) := by decide +kernel
theorem dL_law_744 : decode cL_law 744 = .ok (.iaload, 1) := by decide +kernel
theorem dL_law_745 : decode cL_law 745 = .ok (.invokevirtual 105, 3) := by decide +kernel
theorem dL_law_748 : decode cL_law 748 = .ok (.if_icmp .eq 356, 3) := by decide +kernel
theorem dL_law_751 : decode cL_law 751 = .ok (.iconst 0, 1) := by decide +kernel
theorem dL_law_752 : decode cL_law 752 = .ok (.ireturn, 1) := by decide +kernel
theorem dL_law_753 : decode cL_law 753 = .ok (.aload_n 1, 1) := by decide +kernel
theorem dL_law_754 : decode cL_law 754 = .ok (.aload_n 0, 1) := by decide +kernel
theorem dL_law_755 : decode cL_law 755 = .ok (.iload_n 3, 1) := by decide +kernel
theorem dL_law_756 : decode cL_law 756 = .ok (.iconst 1, 1) := by decide +kernel
theorem dL_law_757 : decode cL_law 757 = .ok (.iadd, 1) := by decide +kernel
theorem dL_law_758 : decode cL_law 758 = .ok (.iaload, 1) := by decide +kernel
theorem dL_law_759 : decode cL_law 759 = .ok (.invokevirtual 106, 3) := by decide +kernel
theorem dL_law_762 : decode cL_law 762 = .ok (.aload_n 2, 1) := by decide +kernel
theorem dL_law_763 : decode cL_law 763 = .ok (.aload_n 0, 1) := by decide +kernel
theorem dL_law_764 : decode cL_law 764 = .ok (.iload_n 3, 1) := by decide +kernel
theorem dL_law_765 : decode cL_law 765 = .ok (.iconst 1, 1) := by decide +kernel
theorem dL_law_766 : decode cL_law 766 = .ok (.iadd, 1) := by decide +kernel
theorem dL_law_767 : decode cL_law 767 = .ok (.iaload, 1) := by decide +kernel
theorem dL_law_768 : decode cL_law 768 = .ok (.invokevirtual 109, 3) := by decide +kernel
theorem dL_law_771 : decode cL_law 771 = .ok (.if_icmp .eq 333, 3) := by decide +kernel
theorem dL_law_774 : decode cL_law 774 = .ok (.iconst 0, 1) := by decide +kernel
theorem dL_law_775 : decode cL_law 775 = .ok (.ireturn, 1) := by decide +kernel
theorem dL_law_776 : decode cL_law 776 = .ok (.aload_n 1, 1) := by decide +kernel
theorem dL_law_777 : decode cL_law 777 = .ok (.aload_n 0, 1) := by decide +kernel
theorem dL_law_778 : decode cL_law 778 = .ok (.iload_n 3, 1) := by decide +kernel
theorem dL_law_779 : decode cL_law 779 = .ok (.iconst 1, 1) := by decide +kernel
theorem dL_law_780 : decode cL_law 780 = .ok (.iadd, 1) := by decide +kernel
theorem dL_law_781 : decode cL_law 781 = .ok (.iaload, 1) := by decide +kernel
theorem dL_law_782 : decode cL_law 782 = .ok (.aload_n 0, 1) := by decide +kernel
theorem dL_law_783 : decode cL_law 783 = .ok (.iload_n 3, 1) := by decide +kernel
theorem dL_law_784 : decode cL_law 784 = .ok (.iconst 2, 1) := by decide +kernel
theorem dL_law_785 : decode cL_law 785 = .ok (.iadd, 1) := by decide +kernel
theorem dL_law_786 : decode cL_law 786 = .ok (.iaload, 1) := by decide +kernel
theorem dL_law_787 : decode cL_law 787 = .ok (.aload_n 0, 1) := by decide +kernel
theorem dL_law_788 : decode cL_law 788 = .ok (.iload_n 3, 1) := by decide +kernel
theorem dL_law_789 : decode cL_law 789 = .ok (.iconst 3, 1) := by decide +kernel
theorem dL_law_790 : decode cL_law 790 = .ok (.iadd, 1) := by decide +kernel
theorem dL_law_791 : decode cL_law 791 = .ok (.iaload, 1) := by decide +kernel
theorem dL_law_792 : decode cL_law 792 = .ok (.invokevirtual 110, 3) := by decide +kernel
theorem dL_law_795 : decode cL_law 795 = .ok (.aload_n 2, 1) := by decide +kernel
theorem dL_law_796 : decode cL_law 796 = .ok (.aload_n 0, 1) := by decide +kernel
theorem dL_law_797 : decode cL_law 797 = .ok (.iload_n 3, 1) := by decide +kernel
theorem dL_law_798 : decode cL_law 798 = .ok (.iconst 1, 1) := by decide +kernel
theorem dL_law_799 : decode cL_law 799 = .ok (.iadd, 1) := by decide +kernel
theorem dL_law_800 : decode cL_law 800 = .ok (.iaload, 1) := by decide +kernel
theorem dL_law_801 : decode cL_law 801 = .ok (.aload_n 0, 1) := by decide +kernel
theorem dL_law_802 : decode cL_law 802 = .ok (.iload_n 3, 1) := by decide +kernel
theorem dL_law_803 : decode cL_law 803 = .ok (.iconst 2, 1) := by decide +kernel
theorem dL_law_804 : decode cL_law 804 = .ok (.iadd, 1) := by decide +kernel
theorem dL_law_805 : decode cL_law 805 = .ok (.iaload, 1) := by decide +kernel
theorem dL_law_806 : decode cL_law 806 = .ok (.aload_n 0, 1) := by decide +kernel
theorem dL_law_807 : decode cL_law 807 = .ok (.iload_n 3, 1) := by decide +kernel
theorem dL_law_808 : decode cL_law 808 = .ok (.iconst 3, 1) := by decide +kernel
theorem dL_law_809 : decode cL_law 809 = .ok (.iadd, 1) := by decide +kernel
theorem dL_law_810 : decode cL_law 810 = .ok (.iaload, 1) := by decide +kernel
theorem dL_law_811 : decode cL_law 811 = .ok (.invokevirtual 113, 3) := by decide +kernel
theorem dL_law_814 : decode cL_law 814 = .ok (.if_icmp .eq 290, 3) := by decide +kernel
theorem dL_law_817 : decode cL_law 817 = .ok (.iconst 0, 1) := by decide +kernel
theorem dL_law_818 : decode cL_law 818 = .ok (.ireturn, 1) := by decide +kernel
theorem dL_law_819 : decode cL_law 819 = .ok (.aload_n 1, 1) := by decide +kernel
theorem dL_law_820 : decode cL_law 820 = .ok (.aload_n 0, 1) := by decide +kernel
theorem dL_law_821 : decode cL_law 821 = .ok (.iload_n 3, 1) := by decide +kernel
theorem dL_law_822 : decode cL_law 822 = .ok (.iconst 1, 1) := by decide +kernel
theorem dL_law_823 : decode cL_law 823 = .ok (.iadd, 1) := by decide +kernel
theorem dL_law_824 : decode cL_law 824 = .ok (.iaload, 1) := by decide +kernel
theorem dL_law_825 : decode cL_law 825 = .ok (.aload_n 0, 1) := by decide +kernel
theorem dL_law_826 : decode cL_law 826 = .ok (.iload_n 3, 1) := by decide +kernel
theorem dL_law_827 : decode cL_law 827 = .ok (.iconst 2, 1) := by decide +kernel
theorem dL_law_828 : decode cL_law 828 = .ok (.iadd, 1) := by decide +kernel
theorem dL_law_829 : decode cL_law 829 = .ok (.iaload, 1) := by decide +kernel
theorem dL_law_830 : decode cL_law 830 = .ok (.aload_n 0, 1) := by decide +kernel
theorem dL_law_831 : decode cL_law 831 = .ok (.iload_n 3, 1) := by decide +kernel
theorem dL_law_832 : decode cL_law 832 = .ok (.iconst 3, 1) := by decide +kernel
theorem dL_law_833 : decode cL_law 833 = .ok (.iadd, 1) := by decide +kernel
theorem dL_law_834 : decode cL_law 834 = .ok (.iaload, 1) := by decide +kernel
theorem dL_law_835 : decode cL_law 835 = .ok (.invokevirtual 114, 3) := by decide +kernel
theorem dL_law_838 : decode cL_law 838 = .ok (.aload_n 2, 1) := by decide +kernel
theorem dL_law_839 : decode cL_law 839 = .ok (.aload_n 0, 1) := by decide +kernel
theorem dL_law_840 : decode cL_law 840 = .ok (.iload_n 3, 1) := by decide +kernel
theorem dL_law_841 : decode cL_law 841 = .ok (.iconst 1, 1) := by decide +kernel
theorem dL_law_842 : decode cL_law 842 = .ok (.iadd, 1) := by decide +kernel
theorem dL_law_843 : decode cL_law 843 = .ok (.iaload, 1) := by decide +kernel
theorem dL_law_844 : decode cL_law 844 = .ok (.aload_n 0, 1) := by decide +kernel
theorem dL_law_845 : decode cL_law 845 = .ok (.iload_n 3, 1) := by decide +kernel
theorem dL_law_846 : decode cL_law 846 = .ok (.iconst 2, 1) := by decide +kernel
theorem dL_law_847 : decode cL_law 847 = .ok (.iadd, 1) := by decide +kernel
theorem dL_law_848 : decode cL_law 848 = .ok (.iaload, 1) := by decide +kernel
theorem dL_law_849 : decode cL_law 849 = .ok (.aload_n 0, 1) := by decide +kernel
theorem dL_law_850 : decode cL_law 850 = .ok (.iload_n 3, 1) := by decide +kernel
theorem dL_law_851 : decode cL_law 851 = .ok (.iconst 3, 1) := by decide +kernel
theorem dL_law_852 : decode cL_law 852 = .ok (.iadd, 1) := by decide +kernel
theorem dL_law_853 : decode cL_law 853 = .ok (.iaload, 1) := by decide +kernel
theorem dL_law_854 : decode cL_law 854 = .ok (.invokevirtual 117, 3) := by decide +kernel
theorem dL_law_857 : decode cL_law 857 = .ok (.if_icmp .eq 247, 3) := by decide +kernel
theorem dL_law_860 : decode cL_law 860 = .ok (.iconst 0, 1) := by decide +kernel
theorem dL_law_861 : decode cL_law 861 = .ok (.ireturn, 1) := by decide +kernel
theorem dL_law_862 : decode cL_law 862 = .ok (.aload_n 1, 1) := by decide +kernel
theorem dL_law_863 : decode cL_law 863 = .ok (.aload_n 0, 1) := by decide +kernel
theorem dL_law_864 : decode cL_law 864 = .ok (.iload_n 3, 1) := by decide +kernel
theorem dL_law_865 : decode cL_law 865 = .ok (.iconst 1, 1) := by decide +kernel
theorem dL_law_866 : decode cL_law 866 = .ok (.iadd, 1) := by decide +kernel
theorem dL_law_867 : decode cL_law 867 = .ok (.iaload, 1) := by decide +kernel
theorem dL_law_868 : decode cL_law 868 = .ok (.invokevirtual 118, 3) := by decide +kernel
theorem dL_law_871 : decode cL_law 871 = .ok (.aload_n 2, 1) := by decide +kernel
theorem dL_law_872 : decode cL_law 872 = .ok (.aload_n 0, 1) := by decide +kernel
theorem dL_law_873 : decode cL_law 873 = .ok (.iload_n 3, 1) := by decide +kernel
theorem dL_law_874 : decode cL_law 874 = .ok (.iconst 1, 1) := by decide +kernel
theorem dL_law_875 : decode cL_law 875 = .ok (.iadd, 1) := by decide +kernel
theorem dL_law_876 : decode cL_law 876 = .ok (.iaload, 1) := by decide +kernel
theorem dL_law_877 : decode cL_law 877 = .ok (.invokevirtual 121, 3) := by decide +kernel
theorem dL_law_880 : decode cL_law 880 = .ok (.if_icmp .eq 224, 3) := by decide +kernel
theorem dL_law_883 : decode cL_law 883 = .ok (.iconst 0, 1) := by decide +kernel
theorem dL_law_884 : decode cL_law 884 = .ok (.ireturn, 1) := by decide +kernel
theorem dL_law_885 : decode cL_law 885 = .ok (.aload_n 1, 1) := by decide +kernel
theorem dL_law_886 : decode cL_law 886 = .ok (.aload_n 0, 1) := by decide +kernel
theorem dL_law_887 : decode cL_law 887 = .ok (.iload_n 3, 1) := by decide +kernel
theorem dL_law_888 : decode cL_law 888 = .ok (.iconst 1, 1) := by decide +kernel
theorem dL_law_889 : decode cL_law 889 = .ok (.iadd, 1) := by decide +kernel
theorem dL_law_890 : decode cL_law 890 = .ok (.iaload, 1) := by decide +kernel
theorem dL_law_891 : decode cL_law 891 = .ok (.aload_n 0, 1) := by decide +kernel
theorem dL_law_892 : decode cL_law 892 = .ok (.iload_n 3, 1) := by decide +kernel
theorem dL_law_893 : decode cL_law 893 = .ok (.iconst 2, 1) := by decide +kernel
theorem dL_law_894 : decode cL_law 894 = .ok (.iadd, 1) := by decide +kernel
theorem dL_law_895 : decode cL_law 895 = .ok (.iaload, 1) := by decide +kernel
theorem dL_law_896 : decode cL_law 896 = .ok (.aload_n 0, 1) := by decide +kernel
theorem dL_law_897 : decode cL_law 897 = .ok (.iload_n 3, 1) := by decide +kernel
theorem dL_law_898 : decode cL_law 898 = .ok (.iconst 3, 1) := by decide +kernel
theorem dL_law_899 : decode cL_law 899 = .ok (.iadd, 1) := by decide +kernel
theorem dL_law_900 : decode cL_law 900 = .ok (.iaload, 1) := by decide +kernel
theorem dL_law_901 : decode cL_law 901 = .ok (.aload_n 0, 1) := by decide +kernel
theorem dL_law_902 : decode cL_law 902 = .ok (.iload_n 3, 1) := by decide +kernel
theorem dL_law_903 : decode cL_law 903 = .ok (.iconst 4, 1) := by decide +kernel
theorem dL_law_904 : decode cL_law 904 = .ok (.iadd, 1) := by decide +kernel
theorem dL_law_905 : decode cL_law 905 = .ok (.iaload, 1) := by decide +kernel
theorem dL_law_906 : decode cL_law 906 = .ok (.invokevirtual 122, 3) := by decide +kernel
theorem dL_law_909 : decode cL_law 909 = .ok (.aload_n 2, 1) := by decide +kernel
theorem dL_law_910 : decode cL_law 910 = .ok (.aload_n 0, 1) := by decide +kernel
theorem dL_law_911 : decode cL_law 911 = .ok (.iload_n 3, 1) := by decide +kernel
theorem dL_law_912 : decode cL_law 912 = .ok (.iconst 1, 1) := by decide +kernel
theorem dL_law_913 : decode cL_law 913 = .ok (.iadd, 1) := by decide +kernel
theorem dL_law_914 : decode cL_law 914 = .ok (.iaload, 1) := by decide +kernel
theorem dL_law_915 : decode cL_law 915 = .ok (.aload_n 0, 1) := by decide +kernel
theorem dL_law_916 : decode cL_law 916 = .ok (.iload_n 3, 1) := by decide +kernel
theorem dL_law_917 : decode cL_law 917 = .ok (.iconst 2, 1) := by decide +kernel
theorem dL_law_918 : decode cL_law 918 = .ok (.iadd, 1) := by decide +kernel
theorem dL_law_919 : decode cL_law 919 = .ok (.iaload, 1) := by decide +kernel
theorem dL_law_920 : decode cL_law 920 = .ok (.aload_n 0, 1) := by decide +kernel
theorem dL_law_921 : decode cL_law 921 = .ok (.iload_n 3, 1) := by decide +kernel
theorem dL_law_922 : decode cL_law 922 = .ok (.iconst 3, 1) := by decide +kernel
theorem dL_law_923 : decode cL_law 923 = .ok (.iadd, 1) := by decide +kernel
theorem dL_law_924 : decode cL_law 924 = .ok (.iaload, 1) := by decide +kernel
theorem dL_law_925 : decode cL_law 925 = .ok (.aload_n 0, 1) := by decide +kernel
theorem dL_law_926 : decode cL_law 926 = .ok (.iload_n 3, 1) := by decide +kernel
theorem dL_law_927 : decode cL_law 927 = .ok (.iconst 4, 1) := by decide +kernel
theorem dL_law_928 : decode cL_law 928 = .ok (.iadd, 1) := by decide +kernel
theorem dL_law_929 : decode cL_law 929 = .ok (.iaload, 1) := by decide +kernel
theorem dL_law_930 : decode cL_law 930 = .ok (.invokevirtual 126, 3) := by decide +kernel
theorem dL_law_933 : decode cL_law 933 = .ok (.if_icmp .eq 171, 3) := by decide +kernel
theorem dL_law_936 : decode cL_law 936 = .ok (.iconst 0, 1) := by decide +kernel
theorem dL_law_937 : decode cL_law 937 = .ok (.ireturn, 1) := by decide +kernel
theorem dL_law_938 : decode cL_law 938 = .ok (.aload_n 1, 1) := by decide +kernel
theorem dL_law_939 : decode cL_law 939 = .ok (.aload_n 0, 1) := by decide +kernel
theorem dL_law_940 : decode cL_law 940 = .ok (.iload_n 3, 1) := by decide +kernel
theorem dL_law_941 : decode cL_law 941 = .ok (.iconst 1, 1) := by decide +kernel
theorem dL_law_942 : decode cL_law 942 = .ok (.iadd, 1) := by decide +kernel
theorem dL_law_943 : decode cL_law 943 = .ok (.iaload, 1) := by decide +kernel
theorem dL_law_944 : decode cL_law 944 = .ok (.aload_n 0, 1) := by decide +kernel
theorem dL_law_945 : decode cL_law 945 = .ok (.iload_n 3, 1) := by decide +kernel
theorem dL_law_946 : decode cL_law 946 = .ok (.iconst 2, 1) := by decide +kernel
theorem dL_law_947 : decode cL_law 947 = .ok (.iadd, 1) := by decide +kernel
theorem dL_law_948 : decode cL_law 948 = .ok (.iaload, 1) := by decide +kernel
theorem dL_law_949 : decode cL_law 949 = .ok (.aload_n 0, 1) := by decide +kernel
theorem dL_law_950 : decode cL_law 950 = .ok (.iload_n 3, 1) := by decide +kernel
theorem dL_law_951 : decode cL_law 951 = .ok (.iconst 3, 1) := by decide +kernel
theorem dL_law_952 : decode cL_law 952 = .ok (.iadd, 1) := by decide +kernel
theorem dL_law_953 : decode cL_law 953 = .ok (.iaload, 1) := by decide +kernel
theorem dL_law_954 : decode cL_law 954 = .ok (.invokevirtual 127, 3) := by decide +kernel
theorem dL_law_957 : decode cL_law 957 = .ok (.aload_n 2, 1) := by decide +kernel
theorem dL_law_958 : decode cL_law 958 = .ok (.aload_n 0, 1) := by decide +kernel
theorem dL_law_959 : decode cL_law 959 = .ok (.iload_n 3, 1) := by decide +kernel
theorem dL_law_960 : decode cL_law 960 = .ok (.iconst 1, 1) := by decide +kernel
theorem dL_law_961 : decode cL_law 961 = .ok (.iadd, 1) := by decide +kernel
theorem dL_law_962 : decode cL_law 962 = .ok (.iaload, 1) := by decide +kernel
theorem dL_law_963 : decode cL_law 963 = .ok (.aload_n 0, 1) := by decide +kernel
theorem dL_law_964 : decode cL_law 964 = .ok (.iload_n 3, 1) := by decide +kernel
theorem dL_law_965 : decode cL_law 965 = .ok (.iconst 2, 1) := by decide +kernel
theorem dL_law_966 : decode cL_law 966 = .ok (.iadd, 1) := by decide +kernel
theorem dL_law_967 : decode cL_law 967 = .ok (.iaload, 1) := by decide +kernel
theorem dL_law_968 : decode cL_law 968 = .ok (.aload_n 0, 1) := by decide +kernel
theorem dL_law_969 : decode cL_law 969 = .ok (.iload_n 3, 1) := by decide +kernel
theorem dL_law_970 : decode cL_law 970 = .ok (.iconst 3, 1) := by decide +kernel
theorem dL_law_971 : decode cL_law 971 = .ok (.iadd, 1) := by decide +kernel
theorem dL_law_972 : decode cL_law 972 = .ok (.iaload, 1) := by decide +kernel
theorem dL_law_973 : decode cL_law 973 = .ok (.invokevirtual 130, 3) := by decide +kernel
theorem dL_law_976 : decode cL_law 976 = .ok (.if_icmp .eq 128, 3) := by decide +kernel
theorem dL_law_979 : decode cL_law 979 = .ok (.iconst 0, 1) := by decide +kernel
theorem dL_law_980 : decode cL_law 980 = .ok (.ireturn, 1) := by decide +kernel
theorem dL_law_981 : decode cL_law 981 = .ok (.aload_n 1, 1) := by decide +kernel
theorem dL_law_982 : decode cL_law 982 = .ok (.aload_n 0, 1) := by decide +kernel
theorem dL_law_983 : decode cL_law 983 = .ok (.iload_n 3, 1) := by decide +kernel
theorem dL_law_984 : decode cL_law 984 = .ok (.iconst 1, 1) := by decide +kernel
theorem dL_law_985 : decode cL_law 985 = .ok (.iadd, 1) := by decide +kernel
theorem dL_law_986 : decode cL_law 986 = .ok (.iaload, 1) := by decide +kernel
theorem dL_law_987 : decode cL_law 987 = .ok (.aload_n 0, 1) := by decide +kernel
theorem dL_law_988 : decode cL_law 988 = .ok (.iload_n 3, 1) := by decide +kernel
theorem dL_law_989 : decode cL_law 989 = .ok (.iconst 2, 1) := by decide +kernel
theorem dL_law_990 : decode cL_law 990 = .ok (.iadd, 1) := by decide +kernel
theorem dL_law_991 : decode cL_law 991 = .ok (.iaload, 1) := by decide +kernel
theorem dL_law_992 : decode cL_law 992 = .ok (.aload_n 0, 1) := by decide +kernel
theorem dL_law_993 : decode cL_law 993 = .ok (.iload_n 3, 1) := by decide +kernel
theorem dL_law_994 : decode cL_law 994 = .ok (.iconst 3, 1) := by decide +kernel
theorem dL_law_995 : decode cL_law 995 = .ok (.iadd, 1) := by decide +kernel
theorem dL_law_996 : decode cL_law 996 = .ok (.iaload, 1) := by decide +kernel
theorem dL_law_997 : decode cL_law 997 = .ok (.aload_n 0, 1) := by decide +kernel
theorem dL_law_998 : decode cL_law 998 = .ok (.iload_n 3, 1) := by decide +kernel
theorem dL_law_999 : decode cL_law 999 = .ok (.iconst 4, 1) := by decide +kernel
theorem dL_law_1000 : decode cL_law 1000 = .ok (.iadd, 1) := by decide +kernel
theorem dL_law_1001 : decode cL_law 1001 = .ok (.iaload, 1) := by decide +kernel
theorem dL_law_1002 : decode cL_law 1002 = .ok (.aload_n 0, 1) := by decide +kernel
theorem dL_law_1003 : decode cL_law 1003 = .ok (.iload_n 3, 1) := by decide +kernel
theorem dL_law_1004 : decode cL_law 1004 = .ok (.iconst 5, 1) := by decide +kernel
theorem dL_law_1005 : decode cL_law 1005 = .ok (.iadd, 1) := by decide +kernel
theorem dL_law_1006 : decode cL_law 1006 = .ok (.iaload, 1) := by decide +kernel
theorem dL_law_1007 : decode cL_law 1007 = .ok (.invokevirtual 131, 3) := by decide +kernel
theorem dL_law_1010 : decode cL_law 1010 = .ok (.aload_n 2, 1) := by decide +kernel
theorem dL_law_1011 : decode cL_law 1011 = .ok (.aload_n 0, 1) := by decide +kernel
theorem dL_law_1012 : decode cL_law 1012 = .ok (.iload_n 3, 1) := by decide +kernel
theorem dL_law_1013 : decode cL_law 1013 = .ok (.iconst 1, 1) := by decide +kernel
theorem dL_law_1014 : decode cL_law 1014 = .ok (.iadd, 1) := by decide +kernel
theorem dL_law_1015 : decode cL_law 1015 = .ok (.iaload, 1) := by decide +kernel
theorem dL_law_1016 : decode cL_law 1016 = .ok (.aload_n 0, 1) := by decide +kernel
theorem dL_law_1017 : decode cL_law 1017 = .ok (.iload_n 3, 1) := by decide +kernel
theorem dL_law_1018 : decode cL_law 1018 = .ok (.iconst 2, 1) := by decide +kernel
theorem dL_law_1019 : decode cL_law 1019 = .ok (.iadd, 1) := by decide +kernel
theorem dL_law_1020 : decode cL_law 1020 = .ok (.iaload, 1) := by decide +kernel
theorem dL_law_1021 : decode cL_law 1021 = .ok (.aload_n 0, 1) := by decide +kernel
theorem dL_law_1022 : decode cL_law 1022 = .ok (.iload_n 3, 1) := by decide +kernel
theorem dL_law_1023 : decode cL_law 1023 = .ok (.iconst 3, 1) := by decide +kernel
theorem dL_law_1024 : decode cL_law 1024 = .ok (.iadd, 1) := by decide +kernel
theorem dL_law_1025 : decode cL_law 1025 = .ok (.iaload, 1) := by decide +kernel
theorem dL_law_1026 : decode cL_law 1026 = .ok (.aload_n 0, 1) := by decide +kernel
theorem dL_law_1027 : decode cL_law 1027 = .ok (.iload_n 3, 1) := by decide +kernel
theorem dL_law_1028 : decode cL_law 1028 = .ok (.iconst 4, 1) := by decide +kernel
theorem dL_law_1029 : decode cL_law 1029 = .ok (.iadd, 1) := by decide +kernel
theorem dL_law_1030 : decode cL_law 1030 = .ok (.iaload, 1) := by decide +kernel
theorem dL_law_1031 : decode cL_law 1031 = .ok (.aload_n 0, 1) := by decide +kernel
theorem dL_law_1032 : decode cL_law 1032 = .ok (.iload_n 3, 1) := by decide +kernel
theorem dL_law_1033 : decode cL_law 1033 = .ok (.iconst 5, 1) := by decide +kernel
theorem dL_law_1034 : decode cL_law 1034 = .ok (.iadd, 1) := by decide +kernel
theorem dL_law_1035 : decode cL_law 1035 = .ok (.iaload, 1) := by decide +kernel
theorem dL_law_1036 : decode cL_law 1036 = .ok (.invokevirtual 135, 3) := by decide +kernel
theorem dL_law_1039 : decode cL_law 1039 = .ok (.if_icmp .eq 65, 3) := by decide +kernel
theorem dL_law_1042 : decode cL_law 1042 = .ok (.iconst 0, 1) := by decide +kernel
theorem dL_law_1043 : decode cL_law 1043 = .ok (.ireturn, 1) := by decide +kernel
theorem dL_law_1044 : decode cL_law 1044 = .ok (.aload_n 1, 1) := by decide +kernel
theorem dL_law_1045 : decode cL_law 1045 = .ok (.aload_n 0, 1) := by decide +kernel
theorem dL_law_1046 : decode cL_law 1046 = .ok (.iload_n 3, 1) := by decide +kernel
theorem dL_law_1047 : decode cL_law 1047 = .ok (.iconst 1, 1) := by decide +kernel
theorem dL_law_1048 : decode cL_law 1048 = .ok (.iadd, 1) := by decide +kernel
theorem dL_law_1049 : decode cL_law 1049 = .ok (.iaload, 1) := by decide +kernel
theorem dL_law_1050 : decode cL_law 1050 = .ok (.invokevirtual 136, 3) := by decide +kernel
theorem dL_law_1053 : decode cL_law 1053 = .ok (.aload_n 2, 1) := by decide +kernel
theorem dL_law_1054 : decode cL_law 1054 = .ok (.aload_n 0, 1) := by decide +kernel
theorem dL_law_1055 : decode cL_law 1055 = .ok (.iload_n 3, 1) := by decide +kernel
theorem dL_law_1056 : decode cL_law 1056 = .ok (.iconst 1, 1) := by decide +kernel
theorem dL_law_1057 : decode cL_law 1057 = .ok (.iadd, 1) := by decide +kernel
theorem dL_law_1058 : decode cL_law 1058 = .ok (.iaload, 1) := by decide +kernel
theorem dL_law_1059 : decode cL_law 1059 = .ok (.invokevirtual 139, 3) := by decide +kernel
theorem dL_law_1062 : decode cL_law 1062 = .ok (.if_icmp .eq 42, 3) := by decide +kernel
theorem dL_law_1065 : decode cL_law 1065 = .ok (.iconst 0, 1) := by decide +kernel
theorem dL_law_1066 : decode cL_law 1066 = .ok (.ireturn, 1) := by decide +kernel
theorem dL_law_1067 : decode cL_law 1067 = .ok (.aload_n 1, 1) := by decide +kernel
theorem dL_law_1068 : decode cL_law 1068 = .ok (.aload_n 0, 1) := by decide +kernel
theorem dL_law_1069 : decode cL_law 1069 = .ok (.iload_n 3, 1) := by decide +kernel
theorem dL_law_1070 : decode cL_law 1070 = .ok (.iconst 1, 1) := by decide +kernel
theorem dL_law_1071 : decode cL_law 1071 = .ok (.iadd, 1) := by decide +kernel
theorem dL_law_1072 : decode cL_law 1072 = .ok (.iaload, 1) := by decide +kernel
theorem dL_law_1073 : decode cL_law 1073 = .ok (.invokevirtual 140, 3) := by decide +kernel
theorem dL_law_1076 : decode cL_law 1076 = .ok (.aload_n 2, 1) := by decide +kernel
theorem dL_law_1077 : decode cL_law 1077 = .ok (.aload_n 0, 1) := by decide +kernel
theorem dL_law_1078 : decode cL_law 1078 = .ok (.iload_n 3, 1) := by decide +kernel
theorem dL_law_1079 : decode cL_law 1079 = .ok (.iconst 1, 1) := by decide +kernel
theorem dL_law_1080 : decode cL_law 1080 = .ok (.iadd, 1) := by decide +kernel
theorem dL_law_1081 : decode cL_law 1081 = .ok (.iaload, 1) := by decide +kernel
theorem dL_law_1082 : decode cL_law 1082 = .ok (.invokevirtual 143, 3) := by decide +kernel
theorem dL_law_1085 : decode cL_law 1085 = .ok (.if_icmp .eq 19, 3) := by decide +kernel
theorem dL_law_1088 : decode cL_law 1088 = .ok (.iconst 0, 1) := by decide +kernel
theorem dL_law_1089 : decode cL_law 1089 = .ok (.ireturn, 1) := by decide +kernel
theorem dL_law_1090 : decode cL_law 1090 = .ok (.aload_n 1, 1) := by decide +kernel
theorem dL_law_1091 : decode cL_law 1091 = .ok (.invokevirtual 144, 3) := by decide +kernel
theorem dL_law_1094 : decode cL_law 1094 = .ok (.aload_n 2, 1) := by decide +kernel
theorem dL_law_1095 : decode cL_law 1095 = .ok (.invokevirtual 148, 3) := by decide +kernel
theorem dL_law_1098 : decode cL_law 1098 = .ok (.lcmp, 1) := by decide +kernel
theorem dL_law_1099 : decode cL_law 1099 = .ok (.ifCond .eq 5, 3) := by decide +kernel
theorem dL_law_1102 : decode cL_law 1102 = .ok (.iconst 0, 1) := by decide +kernel
theorem dL_law_1103 : decode cL_law 1103 = .ok (.ireturn, 1) := by decide +kernel
theorem dL_law_1104 : decode cL_law 1104 = .ok (.iinc 3 6, 3) := by decide +kernel
theorem dL_law_1107 : decode cL_law 1107 = .ok (.goto (-1089), 3) := by decide +kernel
theorem dL_law_1110 : decode cL_law 1110 = .ok (.iconst 1, 1) := by decide +kernel
theorem dL_law_1111 : decode cL_law 1111 = .ok (.ireturn, 1) := by decide +kernel
end
section
/-- the words of the tables that a call keeps -/
def sr_ws : List Cond := lw_tbl.filter goodWord
theorem sr_wt {w : Cond} (i : Nat) (h : tables_1[i]? = some w) (g : goodWord w = true) : w ∈ sr_ws := List.mem_filter.mpr ⟨List.mem_append_right _ (List.mem_of_getElem? h), g⟩
theorem sr_wp {w : Cond} (i : Nat) (h : (k2_sels lw_privs)[i]? = some w) (g : goodWord w = true) : w ∈ sr_ws := List.mem_filter.mpr ⟨List.mem_append_left _ (List.mem_of_getElem? h), g⟩
theorem sw_0 : (Cond.initialized RL : Cond) ∈ sr_ws := sr_wt 0 (by decide +kernel) (by decide +kernel)
theorem sw_1 : (Cond.initialized RX7 : Cond) ∈ sr_ws := sr_wt 1 (by decide +kernel) (by decide +kernel)
theorem sw_2 : (Cond.initialized RX4 : Cond) ∈ sr_ws := sr_wt 2 (by decide +kernel) (by decide +kernel)
theorem sw_3 : (Cond.initialized RX6 : Cond) ∈ sr_ws := sr_wt 3 (by decide +kernel) (by decide +kernel)
theorem sw_4 : (Cond.initialized RX3 : Cond) ∈ sr_ws := sr_wt 4 (by decide +kernel) (by decide +kernel)
theorem sw_5 : (Cond.initialized RX1 : Cond) ∈ sr_ws := sr_wt 5 (by decide +kernel) (by decide +kernel)
theorem sw_6 : (Cond.initialized RX2 : Cond) ∈ sr_ws := sr_wt 6 (by decide +kernel) (by decide +kernel)
theorem sw_7 : (Cond.initialized RX0 : Cond) ∈ sr_ws := sr_wt 7 (by decide +kernel) (by decide +kernel)
theorem sw_8 : (Cond.initialized RX5 : Cond) ∈ sr_ws := sr_wt 8 (by decide +kernel) (by decide +kernel)
theorem sw_9 : (Cond.initialized RX8 : Cond) ∈ sr_ws := sr_wt 9 (by decide +kernel) (by decide +kernel)
theorem sw_10 : (Cond.initialized RJ9 : Cond) ∈ sr_ws := sr_wt 10 (by decide +kernel) (by decide +kernel)
theorem sw_11 : (Cond.initialized RJ7 : Cond) ∈ sr_ws := sr_wt 11 (by decide +kernel) (by decide +kernel)
theorem sw_12 : (Cond.initialized RJ6 : Cond) ∈ sr_ws := sr_wt 12 (by decide +kernel) (by decide +kernel)
theorem sw_13 : (Cond.initialized RJ10 : Cond) ∈ sr_ws := sr_wt 13 (by decide +kernel) (by decide +kernel)
theorem sw_14 : (Cond.classLink RL 7 RX7 : Cond) ∈ sr_ws := sr_wt 14 (by decide +kernel) (by decide +kernel)
theorem sw_15 : (Cond.instantiable RX7 7 : Cond) ∈ sr_ws := sr_wt 15 (by decide +kernel) (by decide +kernel)
theorem sw_16 : (Cond.methodLink RL 9 yX7_init : Cond) ∈ sr_ws := sr_wt 16 (by decide +kernel) (by decide +kernel)
theorem sw_17 : (Cond.instanceMethod yX7_init : Cond) ∈ sr_ws := sr_wt 17 (by decide +kernel) (by decide +kernel)
theorem sw_18 : (Cond.code yX7_init cX7_init 1 none : Cond) ∈ sr_ws := sr_wt 18 (by decide +kernel) (by decide +kernel)
theorem sw_19 : (Cond.methodLink RX7 1 objectInit : Cond) ∈ sr_ws := sr_wt 19 (by decide +kernel) (by decide +kernel)
theorem sw_20 : (Cond.instanceMethod objectInit : Cond) ∈ sr_ws := sr_wt 20 (by decide +kernel) (by decide +kernel)
theorem sw_21 : (Cond.code objectInit object_method_1_code 1 none : Cond) ∈ sr_ws := sr_wt 21 (by decide +kernel) (by decide +kernel)
theorem sw_22 : (Cond.classLink RX7 7 RX4 : Cond) ∈ sr_ws := sr_wt 22 (by decide +kernel) (by decide +kernel)
theorem sw_23 : (Cond.instantiable RX4 8 : Cond) ∈ sr_ws := sr_wt 23 (by decide +kernel) (by decide +kernel)
theorem st_24 : (Cond.methodLinkNest RX7 9 yX4_init RX7 : Cond) ∈ lw_tbl := List.mem_append_right _ (List.mem_of_getElem? (i := 24) (by decide +kernel))
theorem sw_25 : (Cond.instanceMethod yX4_init : Cond) ∈ sr_ws := sr_wt 25 (by decide +kernel) (by decide +kernel)
theorem sw_26 : (Cond.code yX4_init cX4_init 1 none : Cond) ∈ sr_ws := sr_wt 26 (by decide +kernel) (by decide +kernel)
theorem sw_27 : (Cond.methodLink RX4 3 objectInit : Cond) ∈ sr_ws := sr_wt 27 (by decide +kernel) (by decide +kernel)
theorem sw_28 : (Cond.fieldLink RX4 11 "StickRelay$Roster" "text" "[I" : Cond) ∈ sr_ws := sr_wt 28 (by decide +kernel) (by decide +kernel)
theorem sw_29 : (Cond.fieldLink RX4 15 "StickRelay$Roster" "full" "[I" : Cond) ∈ sr_ws := sr_wt 29 (by decide +kernel) (by decide +kernel)
theorem sw_30 : (Cond.fieldLink RX6 26 "StickRelay$Roster" "full" "[I" : Cond) ∈ sr_ws := sr_wt 30 (by decide +kernel) (by decide +kernel)
theorem sw_31 : (Cond.fieldLink RX4 18 "StickRelay$Roster" "slow" "[I" : Cond) ∈ sr_ws := sr_wt 31 (by decide +kernel) (by decide +kernel)
theorem sw_32 : (Cond.fieldLink RX6 40 "StickRelay$Roster" "slow" "[I" : Cond) ∈ sr_ws := sr_wt 32 (by decide +kernel) (by decide +kernel)
theorem sw_33 : (Cond.fieldLink RX4 21 "StickRelay$Roster" "rise" "[I" : Cond) ∈ sr_ws := sr_wt 33 (by decide +kernel) (by decide +kernel)
theorem sw_34 : (Cond.fieldLink RX6 31 "StickRelay$Roster" "rise" "[I" : Cond) ∈ sr_ws := sr_wt 34 (by decide +kernel) (by decide +kernel)
theorem sw_35 : (Cond.fieldLink RX4 24 "StickRelay$Roster" "hands" "[I" : Cond) ∈ sr_ws := sr_wt 35 (by decide +kernel) (by decide +kernel)
theorem sw_36 : (Cond.fieldLink RX2 75 "StickRelay$Roster" "hands" "[I" : Cond) ∈ sr_ws := sr_wt 36 (by decide +kernel) (by decide +kernel)
theorem sw_37 : (Cond.fieldLink RX4 27 "StickRelay$Roster" "length" "I" : Cond) ∈ sr_ws := sr_wt 37 (by decide +kernel) (by decide +kernel)
theorem sw_38 : (Cond.fieldLink RX7 72 "StickRelay$Roster" "length" "I" : Cond) ∈ sr_ws := sr_wt 38 (by decide +kernel) (by decide +kernel)
theorem sw_39 : (Cond.fieldLink RX4 31 "StickRelay$Roster" "fault" "I" : Cond) ∈ sr_ws := sr_wt 39 (by decide +kernel) (by decide +kernel)
theorem sw_40 : (Cond.fieldLink RX7 84 "StickRelay$Roster" "fault" "I" : Cond) ∈ sr_ws := sr_wt 40 (by decide +kernel) (by decide +kernel)
theorem sw_41 : (Cond.fieldLink RX4 34 "StickRelay$Roster" "count" "I" : Cond) ∈ sr_ws := sr_wt 41 (by decide +kernel) (by decide +kernel)
theorem sw_42 : (Cond.fieldLink RX3 29 "StickRelay$Roster" "count" "I" : Cond) ∈ sr_ws := sr_wt 42 (by decide +kernel) (by decide +kernel)
theorem sw_43 : (Cond.fieldLink RX2 41 "StickRelay$Roster" "count" "I" : Cond) ∈ sr_ws := sr_wt 43 (by decide +kernel) (by decide +kernel)
theorem sw_44 : (Cond.fieldLink RX7 234 "StickRelay$Roster" "count" "I" : Cond) ∈ sr_ws := sr_wt 44 (by decide +kernel) (by decide +kernel)
theorem sw_45 : (Cond.laysFinal "StickRelay$Roster" "StickRelay$Roster" "text" "[I" : Cond) ∈ sr_ws := sr_wt 45 (by decide +kernel) (by decide +kernel)
theorem sw_47 : (Cond.laysFinal "StickRelay$Roster" "StickRelay$Roster" "full" "[I" : Cond) ∈ sr_ws := sr_wt 47 (by decide +kernel) (by decide +kernel)
theorem sw_49 : (Cond.laysFinal "StickRelay$Roster" "StickRelay$Roster" "slow" "[I" : Cond) ∈ sr_ws := sr_wt 49 (by decide +kernel) (by decide +kernel)
theorem sw_51 : (Cond.laysFinal "StickRelay$Roster" "StickRelay$Roster" "rise" "[I" : Cond) ∈ sr_ws := sr_wt 51 (by decide +kernel) (by decide +kernel)
theorem sw_53 : (Cond.laysFinal "StickRelay$Roster" "StickRelay$Roster" "hands" "[I" : Cond) ∈ sr_ws := sr_wt 53 (by decide +kernel) (by decide +kernel)
theorem sw_55 : (Cond.lays "StickRelay$Roster" "StickRelay$Roster" "length" "I" : Cond) ∈ sr_ws := sr_wt 55 (by decide +kernel) (by decide +kernel)
theorem sw_57 : (Cond.lays "StickRelay$Roster" "StickRelay$Roster" "fault" "I" : Cond) ∈ sr_ws := sr_wt 57 (by decide +kernel) (by decide +kernel)
theorem sw_59 : (Cond.lays "StickRelay$Roster" "StickRelay$Roster" "count" "I" : Cond) ∈ sr_ws := sr_wt 59 (by decide +kernel) (by decide +kernel)
theorem sw_62 : (Cond.arrayClass Jvm.ClassFile.FieldType.int : Cond) ∈ sr_ws := sr_wt 62 (by decide +kernel) (by decide +kernel)
theorem sw_63 : (Cond.classLink RX7 16 RX6 : Cond) ∈ sr_ws := sr_wt 63 (by decide +kernel) (by decide +kernel)
theorem sw_64 : (Cond.instantiable RX6 3 : Cond) ∈ sr_ws := sr_wt 64 (by decide +kernel) (by decide +kernel)
theorem sw_65 : (Cond.methodLink RX7 18 yX6_init : Cond) ∈ sr_ws := sr_wt 65 (by decide +kernel) (by decide +kernel)
theorem sw_66 : (Cond.instanceMethod yX6_init : Cond) ∈ sr_ws := sr_wt 66 (by decide +kernel) (by decide +kernel)
theorem sw_67 : (Cond.code yX6_init cX6_init 2 none : Cond) ∈ sr_ws := sr_wt 67 (by decide +kernel) (by decide +kernel)
theorem sw_68 : (Cond.methodLink RX6 3 objectInit : Cond) ∈ sr_ws := sr_wt 68 (by decide +kernel) (by decide +kernel)
theorem sw_69 : (Cond.fieldLink RX6 18 "StickRelay$Track" "roster" "LStickRelay$Roster;" : Cond) ∈ sr_ws := sr_wt 69 (by decide +kernel) (by decide +kernel)
theorem sw_70 : (Cond.fieldLink RX6 9 "StickRelay$Track" "rules" "[I" : Cond) ∈ sr_ws := sr_wt 70 (by decide +kernel) (by decide +kernel)
theorem sw_71 : (Cond.fieldLink RX1 43 "StickRelay$Track" "rules" "[I" : Cond) ∈ sr_ws := sr_wt 71 (by decide +kernel) (by decide +kernel)
theorem sw_72 : (Cond.fieldLink RX7 194 "StickRelay$Track" "rules" "[I" : Cond) ∈ sr_ws := sr_wt 72 (by decide +kernel) (by decide +kernel)
theorem sw_73 : (Cond.fieldLink RX6 15 "StickRelay$Track" "extras" "[I" : Cond) ∈ sr_ws := sr_wt 73 (by decide +kernel) (by decide +kernel)
theorem sw_74 : (Cond.laysFinal "StickRelay$Track" "StickRelay$Track" "roster" "LStickRelay$Roster;" : Cond) ∈ sr_ws := sr_wt 74 (by decide +kernel) (by decide +kernel)
theorem sw_76 : (Cond.laysFinal "StickRelay$Track" "StickRelay$Track" "rules" "[I" : Cond) ∈ sr_ws := sr_wt 76 (by decide +kernel) (by decide +kernel)
theorem sw_78 : (Cond.laysFinal "StickRelay$Track" "StickRelay$Track" "extras" "[I" : Cond) ∈ sr_ws := sr_wt 78 (by decide +kernel) (by decide +kernel)
theorem sw_81 : (Cond.classLink RX7 25 RX3 : Cond) ∈ sr_ws := sr_wt 81 (by decide +kernel) (by decide +kernel)
theorem sw_82 : (Cond.instantiable RX3 5 : Cond) ∈ sr_ws := sr_wt 82 (by decide +kernel) (by decide +kernel)
theorem sw_83 : (Cond.methodLink RX7 27 yX3_init : Cond) ∈ sr_ws := sr_wt 83 (by decide +kernel) (by decide +kernel)
theorem sw_84 : (Cond.instanceMethod yX3_init : Cond) ∈ sr_ws := sr_wt 84 (by decide +kernel) (by decide +kernel)
theorem sw_85 : (Cond.code yX3_init cX3_init 3 none : Cond) ∈ sr_ws := sr_wt 85 (by decide +kernel) (by decide +kernel)
theorem sw_86 : (Cond.methodLink RX3 3 objectInit : Cond) ∈ sr_ws := sr_wt 86 (by decide +kernel) (by decide +kernel)
theorem sw_87 : (Cond.fieldLink RX3 21 "StickRelay$Race" "roster" "LStickRelay$Roster;" : Cond) ∈ sr_ws := sr_wt 87 (by decide +kernel) (by decide +kernel)
theorem sw_88 : (Cond.fieldLink RX3 25 "StickRelay$Race" "track" "LStickRelay$Track;" : Cond) ∈ sr_ws := sr_wt 88 (by decide +kernel) (by decide +kernel)
theorem sw_89 : (Cond.fieldLink RX3 9 "StickRelay$Race" "runs" "[I" : Cond) ∈ sr_ws := sr_wt 89 (by decide +kernel) (by decide +kernel)
theorem sw_90 : (Cond.fieldLink RX1 48 "StickRelay$Race" "runs" "[I" : Cond) ∈ sr_ws := sr_wt 90 (by decide +kernel) (by decide +kernel)
theorem sw_91 : (Cond.fieldLink RX7 97 "StickRelay$Race" "runs" "[I" : Cond) ∈ sr_ws := sr_wt 91 (by decide +kernel) (by decide +kernel)
theorem sw_92 : (Cond.fieldLink RX3 15 "StickRelay$Race" "marks" "[I" : Cond) ∈ sr_ws := sr_wt 92 (by decide +kernel) (by decide +kernel)
theorem sw_93 : (Cond.fieldLink RX1 27 "StickRelay$Race" "marks" "[I" : Cond) ∈ sr_ws := sr_wt 93 (by decide +kernel) (by decide +kernel)
theorem sw_94 : (Cond.fieldLink RX7 120 "StickRelay$Race" "marks" "[I" : Cond) ∈ sr_ws := sr_wt 94 (by decide +kernel) (by decide +kernel)
theorem sw_95 : (Cond.fieldLink RX3 18 "StickRelay$Race" "slips" "[I" : Cond) ∈ sr_ws := sr_wt 95 (by decide +kernel) (by decide +kernel)
theorem sw_96 : (Cond.fieldLink RX7 123 "StickRelay$Race" "slips" "[I" : Cond) ∈ sr_ws := sr_wt 96 (by decide +kernel) (by decide +kernel)
theorem sw_97 : (Cond.laysFinal "StickRelay$Race" "StickRelay$Race" "roster" "LStickRelay$Roster;" : Cond) ∈ sr_ws := sr_wt 97 (by decide +kernel) (by decide +kernel)
theorem sw_99 : (Cond.laysFinal "StickRelay$Race" "StickRelay$Race" "track" "LStickRelay$Track;" : Cond) ∈ sr_ws := sr_wt 99 (by decide +kernel) (by decide +kernel)
theorem sw_101 : (Cond.laysFinal "StickRelay$Race" "StickRelay$Race" "runs" "[I" : Cond) ∈ sr_ws := sr_wt 101 (by decide +kernel) (by decide +kernel)
theorem sw_103 : (Cond.laysFinal "StickRelay$Race" "StickRelay$Race" "marks" "[I" : Cond) ∈ sr_ws := sr_wt 103 (by decide +kernel) (by decide +kernel)
theorem sw_105 : (Cond.laysFinal "StickRelay$Race" "StickRelay$Race" "slips" "[I" : Cond) ∈ sr_ws := sr_wt 105 (by decide +kernel) (by decide +kernel)
theorem sw_108 : (Cond.classLink RX7 34 RX1 : Cond) ∈ sr_ws := sr_wt 108 (by decide +kernel) (by decide +kernel)
theorem sw_109 : (Cond.instantiable RX1 3 : Cond) ∈ sr_ws := sr_wt 109 (by decide +kernel) (by decide +kernel)
theorem sw_110 : (Cond.methodLink RX7 36 yX1_init : Cond) ∈ sr_ws := sr_wt 110 (by decide +kernel) (by decide +kernel)
theorem sw_111 : (Cond.instanceMethod yX1_init : Cond) ∈ sr_ws := sr_wt 111 (by decide +kernel) (by decide +kernel)
theorem sw_112 : (Cond.code yX1_init cX1_init 3 none : Cond) ∈ sr_ws := sr_wt 112 (by decide +kernel) (by decide +kernel)
theorem sw_113 : (Cond.methodLink RX1 3 objectInit : Cond) ∈ sr_ws := sr_wt 113 (by decide +kernel) (by decide +kernel)
theorem sw_114 : (Cond.fieldLink RX1 15 "StickRelay$Odds" "track" "LStickRelay$Track;" : Cond) ∈ sr_ws := sr_wt 114 (by decide +kernel) (by decide +kernel)
theorem sw_115 : (Cond.fieldLink RX1 19 "StickRelay$Odds" "race" "LStickRelay$Race;" : Cond) ∈ sr_ws := sr_wt 115 (by decide +kernel) (by decide +kernel)
theorem sw_116 : (Cond.fieldLink RX1 11 "StickRelay$Odds" "farthest" "[I" : Cond) ∈ sr_ws := sr_wt 116 (by decide +kernel) (by decide +kernel)
theorem sw_117 : (Cond.laysFinal "StickRelay$Odds" "StickRelay$Odds" "track" "LStickRelay$Track;" : Cond) ∈ sr_ws := sr_wt 117 (by decide +kernel) (by decide +kernel)
theorem sw_119 : (Cond.laysFinal "StickRelay$Odds" "StickRelay$Odds" "race" "LStickRelay$Race;" : Cond) ∈ sr_ws := sr_wt 119 (by decide +kernel) (by decide +kernel)
theorem sw_121 : (Cond.laysFinal "StickRelay$Odds" "StickRelay$Odds" "farthest" "[I" : Cond) ∈ sr_ws := sr_wt 121 (by decide +kernel) (by decide +kernel)
theorem sw_124 : (Cond.classLink RX7 43 RX2 : Cond) ∈ sr_ws := sr_wt 124 (by decide +kernel) (by decide +kernel)
theorem sw_125 : (Cond.instantiable RX2 5 : Cond) ∈ sr_ws := sr_wt 125 (by decide +kernel) (by decide +kernel)
theorem sw_126 : (Cond.methodLink RX7 45 yX2_init : Cond) ∈ sr_ws := sr_wt 126 (by decide +kernel) (by decide +kernel)
theorem sw_127 : (Cond.instanceMethod yX2_init : Cond) ∈ sr_ws := sr_wt 127 (by decide +kernel) (by decide +kernel)
theorem sw_128 : (Cond.code yX2_init cX2_init 3 none : Cond) ∈ sr_ws := sr_wt 128 (by decide +kernel) (by decide +kernel)
theorem sw_129 : (Cond.methodLink RX2 3 objectInit : Cond) ∈ sr_ws := sr_wt 129 (by decide +kernel) (by decide +kernel)
theorem sw_130 : (Cond.classLink RX2 9 "[[I" : Cond) ∈ sr_ws := sr_wt 130 (by decide +kernel) (by decide +kernel)
theorem st_131 : (Cond.arrayOver (Jvm.ClassFile.FieldType.array Jvm.ClassFile.FieldType.int) : Cond) ∈ lw_tbl := List.mem_append_right _ (List.mem_of_getElem? (i := 131) (by decide +kernel))
theorem sw_132 : (Cond.fieldLink RX2 23 "StickRelay$Orders" "roster" "LStickRelay$Roster;" : Cond) ∈ sr_ws := sr_wt 132 (by decide +kernel) (by decide +kernel)
theorem sw_133 : (Cond.fieldLink RX2 27 "StickRelay$Orders" "track" "LStickRelay$Track;" : Cond) ∈ sr_ws := sr_wt 133 (by decide +kernel) (by decide +kernel)
theorem sw_134 : (Cond.fieldLink RX2 11 "StickRelay$Orders" "marks" "[[I" : Cond) ∈ sr_ws := sr_wt 134 (by decide +kernel) (by decide +kernel)
theorem sw_135 : (Cond.fieldLink RX2 16 "StickRelay$Orders" "legs" "[[I" : Cond) ∈ sr_ws := sr_wt 135 (by decide +kernel) (by decide +kernel)
theorem sw_136 : (Cond.fieldLink RX2 19 "StickRelay$Orders" "told" "[I" : Cond) ∈ sr_ws := sr_wt 136 (by decide +kernel) (by decide +kernel)
theorem sw_137 : (Cond.fieldLink RX7 191 "StickRelay$Orders" "told" "[I" : Cond) ∈ sr_ws := sr_wt 137 (by decide +kernel) (by decide +kernel)
theorem sw_138 : (Cond.laysFinal "StickRelay$Orders" "StickRelay$Orders" "roster" "LStickRelay$Roster;" : Cond) ∈ sr_ws := sr_wt 138 (by decide +kernel) (by decide +kernel)
theorem sw_140 : (Cond.laysFinal "StickRelay$Orders" "StickRelay$Orders" "track" "LStickRelay$Track;" : Cond) ∈ sr_ws := sr_wt 140 (by decide +kernel) (by decide +kernel)
theorem sw_142 : (Cond.laysFinal "StickRelay$Orders" "StickRelay$Orders" "marks" "[[I" : Cond) ∈ sr_ws := sr_wt 142 (by decide +kernel) (by decide +kernel)
theorem sw_144 : (Cond.laysFinal "StickRelay$Orders" "StickRelay$Orders" "legs" "[[I" : Cond) ∈ sr_ws := sr_wt 144 (by decide +kernel) (by decide +kernel)
theorem sw_146 : (Cond.laysFinal "StickRelay$Orders" "StickRelay$Orders" "told" "[I" : Cond) ∈ sr_ws := sr_wt 146 (by decide +kernel) (by decide +kernel)
theorem sw_149 : (Cond.classLink RX7 50 RX0 : Cond) ∈ sr_ws := sr_wt 149 (by decide +kernel) (by decide +kernel)
theorem sw_150 : (Cond.instantiable RX0 2 : Cond) ∈ sr_ws := sr_wt 150 (by decide +kernel) (by decide +kernel)
theorem st_151 : (Cond.methodLinkNest RX7 52 yX0_init RX7 : Cond) ∈ lw_tbl := List.mem_append_right _ (List.mem_of_getElem? (i := 151) (by decide +kernel))
theorem sw_152 : (Cond.instanceMethod yX0_init : Cond) ∈ sr_ws := sr_wt 152 (by decide +kernel) (by decide +kernel)
theorem sw_153 : (Cond.code yX0_init cX0_init 1 none : Cond) ∈ sr_ws := sr_wt 153 (by decide +kernel) (by decide +kernel)
theorem sw_154 : (Cond.methodLink RX0 3 objectInit : Cond) ∈ sr_ws := sr_wt 154 (by decide +kernel) (by decide +kernel)
theorem sw_155 : (Cond.fieldLink RX0 9 "StickRelay$Lots" "slips" "[I" : Cond) ∈ sr_ws := sr_wt 155 (by decide +kernel) (by decide +kernel)
theorem sw_156 : (Cond.fieldLink RX7 206 "StickRelay$Lots" "slips" "[I" : Cond) ∈ sr_ws := sr_wt 156 (by decide +kernel) (by decide +kernel)
theorem sw_157 : (Cond.fieldLink RX0 15 "StickRelay$Lots" "seed" "I" : Cond) ∈ sr_ws := sr_wt 157 (by decide +kernel) (by decide +kernel)
theorem sw_158 : (Cond.fieldLink RX7 200 "StickRelay$Lots" "seed" "I" : Cond) ∈ sr_ws := sr_wt 158 (by decide +kernel) (by decide +kernel)
theorem sw_159 : (Cond.laysFinal "StickRelay$Lots" "StickRelay$Lots" "slips" "[I" : Cond) ∈ sr_ws := sr_wt 159 (by decide +kernel) (by decide +kernel)
theorem sw_161 : (Cond.lays "StickRelay$Lots" "StickRelay$Lots" "seed" "I" : Cond) ∈ sr_ws := sr_wt 161 (by decide +kernel) (by decide +kernel)
theorem sw_164 : (Cond.classLink RX7 57 RX5 : Cond) ∈ sr_ws := sr_wt 164 (by decide +kernel) (by decide +kernel)
theorem sw_165 : (Cond.instantiable RX5 4 : Cond) ∈ sr_ws := sr_wt 165 (by decide +kernel) (by decide +kernel)
theorem st_166 : (Cond.methodLinkNest RX7 59 yX5_init RX7 : Cond) ∈ lw_tbl := List.mem_append_right _ (List.mem_of_getElem? (i := 166) (by decide +kernel))
theorem sw_167 : (Cond.instanceMethod yX5_init : Cond) ∈ sr_ws := sr_wt 167 (by decide +kernel) (by decide +kernel)
theorem sw_168 : (Cond.code yX5_init cX5_init 1 none : Cond) ∈ sr_ws := sr_wt 168 (by decide +kernel) (by decide +kernel)
theorem sw_169 : (Cond.methodLink RX5 3 objectInit : Cond) ∈ sr_ws := sr_wt 169 (by decide +kernel) (by decide +kernel)
theorem sw_170 : (Cond.classLink RX5 11 "[[I" : Cond) ∈ sr_ws := sr_wt 170 (by decide +kernel) (by decide +kernel)
theorem sw_171 : (Cond.fieldLink RX5 13 "StickRelay$Sheets" "items" "[[I" : Cond) ∈ sr_ws := sr_wt 171 (by decide +kernel) (by decide +kernel)
theorem sw_172 : (Cond.fieldLink RX7 144 "StickRelay$Sheets" "items" "[[I" : Cond) ∈ sr_ws := sr_wt 172 (by decide +kernel) (by decide +kernel)
theorem sw_173 : (Cond.fieldLink RX5 16 "StickRelay$Sheets" "forms" "[I" : Cond) ∈ sr_ws := sr_wt 173 (by decide +kernel) (by decide +kernel)
theorem sw_174 : (Cond.fieldLink RX7 222 "StickRelay$Sheets" "forms" "[I" : Cond) ∈ sr_ws := sr_wt 174 (by decide +kernel) (by decide +kernel)
theorem sw_175 : (Cond.fieldLink RX5 20 "StickRelay$Sheets" "sizes" "[I" : Cond) ∈ sr_ws := sr_wt 175 (by decide +kernel) (by decide +kernel)
theorem sw_176 : (Cond.fieldLink RX7 136 "StickRelay$Sheets" "sizes" "[I" : Cond) ∈ sr_ws := sr_wt 176 (by decide +kernel) (by decide +kernel)
theorem sw_177 : (Cond.fieldLink RX5 23 "StickRelay$Sheets" "finding" "I" : Cond) ∈ sr_ws := sr_wt 177 (by decide +kernel) (by decide +kernel)
theorem sw_178 : (Cond.fieldLink RX7 240 "StickRelay$Sheets" "finding" "I" : Cond) ∈ sr_ws := sr_wt 178 (by decide +kernel) (by decide +kernel)
theorem sw_179 : (Cond.laysFinal "StickRelay$Sheets" "StickRelay$Sheets" "items" "[[I" : Cond) ∈ sr_ws := sr_wt 179 (by decide +kernel) (by decide +kernel)
theorem sw_181 : (Cond.laysFinal "StickRelay$Sheets" "StickRelay$Sheets" "forms" "[I" : Cond) ∈ sr_ws := sr_wt 181 (by decide +kernel) (by decide +kernel)
theorem sw_183 : (Cond.laysFinal "StickRelay$Sheets" "StickRelay$Sheets" "sizes" "[I" : Cond) ∈ sr_ws := sr_wt 183 (by decide +kernel) (by decide +kernel)
theorem sw_185 : (Cond.lays "StickRelay$Sheets" "StickRelay$Sheets" "finding" "I" : Cond) ∈ sr_ws := sr_wt 185 (by decide +kernel) (by decide +kernel)
theorem sw_188 : (Cond.fieldLink RX7 10 "StickRelay" "roster" "LStickRelay$Roster;" : Cond) ∈ sr_ws := sr_wt 188 (by decide +kernel) (by decide +kernel)
theorem sw_189 : (Cond.fieldLink RX7 21 "StickRelay" "track" "LStickRelay$Track;" : Cond) ∈ sr_ws := sr_wt 189 (by decide +kernel) (by decide +kernel)
theorem sw_190 : (Cond.fieldLink RX7 30 "StickRelay" "race" "LStickRelay$Race;" : Cond) ∈ sr_ws := sr_wt 190 (by decide +kernel) (by decide +kernel)
theorem sw_191 : (Cond.fieldLink RX7 39 "StickRelay" "odds" "LStickRelay$Odds;" : Cond) ∈ sr_ws := sr_wt 191 (by decide +kernel) (by decide +kernel)
theorem sw_192 : (Cond.fieldLink RX7 46 "StickRelay" "orders" "LStickRelay$Orders;" : Cond) ∈ sr_ws := sr_wt 192 (by decide +kernel) (by decide +kernel)
theorem sw_193 : (Cond.fieldLink RX7 53 "StickRelay" "lots" "LStickRelay$Lots;" : Cond) ∈ sr_ws := sr_wt 193 (by decide +kernel) (by decide +kernel)
theorem sw_194 : (Cond.fieldLink RX7 60 "StickRelay" "sheets" "LStickRelay$Sheets;" : Cond) ∈ sr_ws := sr_wt 194 (by decide +kernel) (by decide +kernel)
theorem sw_195 : (Cond.laysFinal "StickRelay" "StickRelay" "roster" "LStickRelay$Roster;" : Cond) ∈ sr_ws := sr_wt 195 (by decide +kernel) (by decide +kernel)
theorem sw_197 : (Cond.laysFinal "StickRelay" "StickRelay" "track" "LStickRelay$Track;" : Cond) ∈ sr_ws := sr_wt 197 (by decide +kernel) (by decide +kernel)
theorem sw_199 : (Cond.laysFinal "StickRelay" "StickRelay" "race" "LStickRelay$Race;" : Cond) ∈ sr_ws := sr_wt 199 (by decide +kernel) (by decide +kernel)
theorem sw_201 : (Cond.laysFinal "StickRelay" "StickRelay" "odds" "LStickRelay$Odds;" : Cond) ∈ sr_ws := sr_wt 201 (by decide +kernel) (by decide +kernel)
theorem sw_203 : (Cond.laysFinal "StickRelay" "StickRelay" "orders" "LStickRelay$Orders;" : Cond) ∈ sr_ws := sr_wt 203 (by decide +kernel) (by decide +kernel)
theorem sw_205 : (Cond.laysFinal "StickRelay" "StickRelay" "lots" "LStickRelay$Lots;" : Cond) ∈ sr_ws := sr_wt 205 (by decide +kernel) (by decide +kernel)
theorem sw_207 : (Cond.laysFinal "StickRelay" "StickRelay" "sheets" "LStickRelay$Sheets;" : Cond) ∈ sr_ws := sr_wt 207 (by decide +kernel) (by decide +kernel)
theorem sw_210 : (Cond.methodLink RL 13 yX7_type : Cond) ∈ sr_ws := sr_wt 210 (by decide +kernel) (by decide +kernel)
theorem sw_211 : (Cond.instanceMethod yX7_type : Cond) ∈ sr_ws := sr_wt 211 (by decide +kernel) (by decide +kernel)
theorem sw_212 : (Cond.selects RX7 yX7_type yX7_type : Cond) ∈ sr_ws := sr_wt 212 (by decide +kernel) (by decide +kernel)
theorem sw_213 : (Cond.code yX7_type cX7_type 2 (some .int) : Cond) ∈ sr_ws := sr_wt 213 (by decide +kernel) (by decide +kernel)
theorem sw_214 : (Cond.methodLink RX7 64 yX7_outside : Cond) ∈ sr_ws := sr_wt 214 (by decide +kernel) (by decide +kernel)
theorem sw_215 : (Cond.static yX7_outside : Cond) ∈ sr_ws := sr_wt 215 (by decide +kernel) (by decide +kernel)
theorem sw_216 : (Cond.code yX7_outside cX7_outside 3 (some .boolean) : Cond) ∈ sr_ws := sr_wt 216 (by decide +kernel) (by decide +kernel)
theorem sw_217 : (Cond.methodLink RX7 68 yX4_append : Cond) ∈ sr_ws := sr_wt 217 (by decide +kernel) (by decide +kernel)
theorem sw_218 : (Cond.instanceMethod yX4_append : Cond) ∈ sr_ws := sr_wt 218 (by decide +kernel) (by decide +kernel)
theorem sw_219 : (Cond.selects RX4 yX4_append yX4_append : Cond) ∈ sr_ws := sr_wt 219 (by decide +kernel) (by decide +kernel)
theorem sw_220 : (Cond.code yX4_append cX4_append 2 (some .boolean) : Cond) ∈ sr_ws := sr_wt 220 (by decide +kernel) (by decide +kernel)
theorem sw_221 : (Cond.methodLink RX4 37 yX4_scan : Cond) ∈ sr_ws := sr_wt 221 (by decide +kernel) (by decide +kernel)
theorem sw_223 : (Cond.instanceMethod yX4_scan : Cond) ∈ sr_ws := sr_wt 223 (by decide +kernel) (by decide +kernel)
theorem sw_224 : (Cond.code yX4_scan cX4_scan 4 none : Cond) ∈ sr_ws := sr_wt 224 (by decide +kernel) (by decide +kernel)
theorem sw_225 : (Cond.methodLink RX4 40 yX4_canGoOn : Cond) ∈ sr_ws := sr_wt 225 (by decide +kernel) (by decide +kernel)
theorem sw_227 : (Cond.instanceMethod yX4_canGoOn : Cond) ∈ sr_ws := sr_wt 227 (by decide +kernel) (by decide +kernel)
theorem sw_228 : (Cond.code yX4_canGoOn cX4_canGoOn 4 (some .boolean) : Cond) ∈ sr_ws := sr_wt 228 (by decide +kernel) (by decide +kernel)
theorem st_229 : (Cond.methodLinkNest RX4 48 yX7_outside RX7 : Cond) ∈ lw_tbl := List.mem_append_right _ (List.mem_of_getElem? (i := 229) (by decide +kernel))
theorem sw_230 : (Cond.methodLink RX4 52 yX4_twoFigures : Cond) ∈ sr_ws := sr_wt 230 (by decide +kernel) (by decide +kernel)
theorem sw_232 : (Cond.instanceMethod yX4_twoFigures : Cond) ∈ sr_ws := sr_wt 232 (by decide +kernel) (by decide +kernel)
theorem sw_233 : (Cond.code yX4_twoFigures cX4_twoFigures 2 (some .int) : Cond) ∈ sr_ws := sr_wt 233 (by decide +kernel) (by decide +kernel)
theorem sw_234 : (Cond.methodLink RX4 44 yX4_readFigures : Cond) ∈ sr_ws := sr_wt 234 (by decide +kernel) (by decide +kernel)
theorem sw_236 : (Cond.instanceMethod yX4_readFigures : Cond) ∈ sr_ws := sr_wt 236 (by decide +kernel) (by decide +kernel)
theorem sw_237 : (Cond.code yX4_readFigures cX4_readFigures 3 none : Cond) ∈ sr_ws := sr_wt 237 (by decide +kernel) (by decide +kernel)
theorem sw_238 : (Cond.methodLink RL 18 yX7_wipe : Cond) ∈ sr_ws := sr_wt 238 (by decide +kernel) (by decide +kernel)
theorem sw_239 : (Cond.instanceMethod yX7_wipe : Cond) ∈ sr_ws := sr_wt 239 (by decide +kernel) (by decide +kernel)
theorem sw_240 : (Cond.selects RX7 yX7_wipe yX7_wipe : Cond) ∈ sr_ws := sr_wt 240 (by decide +kernel) (by decide +kernel)
theorem sw_241 : (Cond.code yX7_wipe cX7_wipe 1 (some .int) : Cond) ∈ sr_ws := sr_wt 241 (by decide +kernel) (by decide +kernel)
theorem sw_242 : (Cond.methodLink RX7 76 yX4_clear : Cond) ∈ sr_ws := sr_wt 242 (by decide +kernel) (by decide +kernel)
theorem sw_243 : (Cond.instanceMethod yX4_clear : Cond) ∈ sr_ws := sr_wt 243 (by decide +kernel) (by decide +kernel)
theorem sw_244 : (Cond.selects RX4 yX4_clear yX4_clear : Cond) ∈ sr_ws := sr_wt 244 (by decide +kernel) (by decide +kernel)
theorem sw_245 : (Cond.code yX4_clear cX4_clear 2 (some .int) : Cond) ∈ sr_ws := sr_wt 245 (by decide +kernel) (by decide +kernel)
theorem sw_246 : (Cond.methodLink RL 23 yX7_undo : Cond) ∈ sr_ws := sr_wt 246 (by decide +kernel) (by decide +kernel)
theorem sw_247 : (Cond.instanceMethod yX7_undo : Cond) ∈ sr_ws := sr_wt 247 (by decide +kernel) (by decide +kernel)
theorem sw_248 : (Cond.selects RX7 yX7_undo yX7_undo : Cond) ∈ sr_ws := sr_wt 248 (by decide +kernel) (by decide +kernel)
theorem sw_249 : (Cond.code yX7_undo cX7_undo 1 (some .int) : Cond) ∈ sr_ws := sr_wt 249 (by decide +kernel) (by decide +kernel)
theorem sw_250 : (Cond.methodLink RX7 80 yX4_dropLast : Cond) ∈ sr_ws := sr_wt 250 (by decide +kernel) (by decide +kernel)
theorem sw_251 : (Cond.instanceMethod yX4_dropLast : Cond) ∈ sr_ws := sr_wt 251 (by decide +kernel) (by decide +kernel)
theorem sw_252 : (Cond.selects RX4 yX4_dropLast yX4_dropLast : Cond) ∈ sr_ws := sr_wt 252 (by decide +kernel) (by decide +kernel)
theorem sw_253 : (Cond.code yX4_dropLast cX4_dropLast 1 (some .boolean) : Cond) ∈ sr_ws := sr_wt 253 (by decide +kernel) (by decide +kernel)
theorem sw_254 : (Cond.methodLink RL 27 yX7_fault : Cond) ∈ sr_ws := sr_wt 254 (by decide +kernel) (by decide +kernel)
theorem sw_255 : (Cond.instanceMethod yX7_fault : Cond) ∈ sr_ws := sr_wt 255 (by decide +kernel) (by decide +kernel)
theorem sw_256 : (Cond.selects RX7 yX7_fault yX7_fault : Cond) ∈ sr_ws := sr_wt 256 (by decide +kernel) (by decide +kernel)
theorem sw_257 : (Cond.code yX7_fault cX7_fault 1 (some .int) : Cond) ∈ sr_ws := sr_wt 257 (by decide +kernel) (by decide +kernel)
theorem sw_258 : (Cond.methodLink RL 31 yX7_runner : Cond) ∈ sr_ws := sr_wt 258 (by decide +kernel) (by decide +kernel)
theorem sw_259 : (Cond.instanceMethod yX7_runner : Cond) ∈ sr_ws := sr_wt 259 (by decide +kernel) (by decide +kernel)
theorem sw_260 : (Cond.selects RX7 yX7_runner yX7_runner : Cond) ∈ sr_ws := sr_wt 260 (by decide +kernel) (by decide +kernel)
theorem sw_261 : (Cond.code yX7_runner cX7_runner 3 (some .int) : Cond) ∈ sr_ws := sr_wt 261 (by decide +kernel) (by decide +kernel)
theorem sw_262 : (Cond.methodLink RX7 87 yX7_isNobody : Cond) ∈ sr_ws := sr_wt 262 (by decide +kernel) (by decide +kernel)
theorem sw_264 : (Cond.instanceMethod yX7_isNobody : Cond) ∈ sr_ws := sr_wt 264 (by decide +kernel) (by decide +kernel)
theorem sw_265 : (Cond.code yX7_isNobody cX7_isNobody 2 (some .boolean) : Cond) ∈ sr_ws := sr_wt 265 (by decide +kernel) (by decide +kernel)
theorem sw_266 : (Cond.methodLink RX7 90 yX4_figure : Cond) ∈ sr_ws := sr_wt 266 (by decide +kernel) (by decide +kernel)
theorem sw_267 : (Cond.instanceMethod yX4_figure : Cond) ∈ sr_ws := sr_wt 267 (by decide +kernel) (by decide +kernel)
theorem sw_268 : (Cond.selects RX4 yX4_figure yX4_figure : Cond) ∈ sr_ws := sr_wt 268 (by decide +kernel) (by decide +kernel)
theorem sw_269 : (Cond.code yX4_figure cX4_figure 3 (some .int) : Cond) ∈ sr_ws := sr_wt 269 (by decide +kernel) (by decide +kernel)
theorem sw_270 : (Cond.methodLink RL 36 yX7_runs : Cond) ∈ sr_ws := sr_wt 270 (by decide +kernel) (by decide +kernel)
theorem sw_271 : (Cond.instanceMethod yX7_runs : Cond) ∈ sr_ws := sr_wt 271 (by decide +kernel) (by decide +kernel)
theorem sw_272 : (Cond.selects RX7 yX7_runs yX7_runs : Cond) ∈ sr_ws := sr_wt 272 (by decide +kernel) (by decide +kernel)
theorem sw_273 : (Cond.code yX7_runs cX7_runs 3 (some .int) : Cond) ∈ sr_ws := sr_wt 273 (by decide +kernel) (by decide +kernel)
theorem sw_274 : (Cond.methodLink RX7 94 yX7_isNoStretch : Cond) ∈ sr_ws := sr_wt 274 (by decide +kernel) (by decide +kernel)
theorem sw_275 : (Cond.static yX7_isNoStretch : Cond) ∈ sr_ws := sr_wt 275 (by decide +kernel) (by decide +kernel)
theorem sw_276 : (Cond.code yX7_isNoStretch cX7_isNoStretch 1 (some .boolean) : Cond) ∈ sr_ws := sr_wt 276 (by decide +kernel) (by decide +kernel)
theorem sw_277 : (Cond.methodLink RX7 101 yX7_swap : Cond) ∈ sr_ws := sr_wt 277 (by decide +kernel) (by decide +kernel)
theorem sw_278 : (Cond.static yX7_swap : Cond) ∈ sr_ws := sr_wt 278 (by decide +kernel) (by decide +kernel)
theorem sw_279 : (Cond.code yX7_swap cX7_swap 4 (some .int) : Cond) ∈ sr_ws := sr_wt 279 (by decide +kernel) (by decide +kernel)
theorem sw_280 : (Cond.methodLink RL 40 yX7_set : Cond) ∈ sr_ws := sr_wt 280 (by decide +kernel) (by decide +kernel)
theorem sw_281 : (Cond.instanceMethod yX7_set : Cond) ∈ sr_ws := sr_wt 281 (by decide +kernel) (by decide +kernel)
theorem sw_282 : (Cond.selects RX7 yX7_set yX7_set : Cond) ∈ sr_ws := sr_wt 282 (by decide +kernel) (by decide +kernel)
theorem sw_283 : (Cond.code yX7_set cX7_set 3 (some .int) : Cond) ∈ sr_ws := sr_wt 283 (by decide +kernel) (by decide +kernel)
theorem sw_284 : (Cond.fieldLink RX7 105 "StickRelay" "LEAST_RULES" "[I" : Cond) ∈ sr_ws := sr_wt 284 (by decide +kernel) (by decide +kernel)
theorem st_285 : (Cond.laysStatic "StickRelay" "LEAST_RULES" "[I" : Cond) ∈ lw_tbl := List.mem_append_right _ (List.mem_of_getElem? (i := 285) (by decide +kernel))
theorem sw_286 : (Cond.fieldLink RX7 108 "StickRelay" "MOST_RULES" "[I" : Cond) ∈ sr_ws := sr_wt 286 (by decide +kernel) (by decide +kernel)
theorem st_287 : (Cond.laysStatic "StickRelay" "MOST_RULES" "[I" : Cond) ∈ lw_tbl := List.mem_append_right _ (List.mem_of_getElem? (i := 287) (by decide +kernel))
theorem sw_288 : (Cond.methodLink RX7 111 yX6_setRule : Cond) ∈ sr_ws := sr_wt 288 (by decide +kernel) (by decide +kernel)
theorem sw_289 : (Cond.instanceMethod yX6_setRule : Cond) ∈ sr_ws := sr_wt 289 (by decide +kernel) (by decide +kernel)
theorem sw_290 : (Cond.selects RX6 yX6_setRule yX6_setRule : Cond) ∈ sr_ws := sr_wt 290 (by decide +kernel) (by decide +kernel)
theorem sw_291 : (Cond.code yX6_setRule cX6_setRule 5 (some .int) : Cond) ∈ sr_ws := sr_wt 291 (by decide +kernel) (by decide +kernel)
theorem st_292 : (Cond.methodLinkNest RX6 22 yX7_swap RX7 : Cond) ∈ lw_tbl := List.mem_append_right _ (List.mem_of_getElem? (i := 292) (by decide +kernel))
theorem sw_293 : (Cond.methodLink RL 44 yX7_mark : Cond) ∈ sr_ws := sr_wt 293 (by decide +kernel) (by decide +kernel)
theorem sw_294 : (Cond.instanceMethod yX7_mark : Cond) ∈ sr_ws := sr_wt 294 (by decide +kernel) (by decide +kernel)
theorem sw_295 : (Cond.selects RX7 yX7_mark yX7_mark : Cond) ∈ sr_ws := sr_wt 295 (by decide +kernel) (by decide +kernel)
theorem sw_296 : (Cond.code yX7_mark cX7_mark 3 (some .int) : Cond) ∈ sr_ws := sr_wt 296 (by decide +kernel) (by decide +kernel)
theorem sw_297 : (Cond.methodLink RX7 114 yX7_isNoChange : Cond) ∈ sr_ws := sr_wt 297 (by decide +kernel) (by decide +kernel)
theorem sw_298 : (Cond.static yX7_isNoChange : Cond) ∈ sr_ws := sr_wt 298 (by decide +kernel) (by decide +kernel)
theorem sw_299 : (Cond.code yX7_isNoChange cX7_isNoChange 1 (some .boolean) : Cond) ∈ sr_ws := sr_wt 299 (by decide +kernel) (by decide +kernel)
theorem sw_300 : (Cond.methodLink RX7 117 yX7_isNoMark : Cond) ∈ sr_ws := sr_wt 300 (by decide +kernel) (by decide +kernel)
theorem sw_301 : (Cond.static yX7_isNoMark : Cond) ∈ sr_ws := sr_wt 301 (by decide +kernel) (by decide +kernel)
theorem sw_302 : (Cond.code yX7_isNoMark cX7_isNoMark 1 (some .boolean) : Cond) ∈ sr_ws := sr_wt 302 (by decide +kernel) (by decide +kernel)
theorem sw_303 : (Cond.methodLink RL 48 yX7_slip : Cond) ∈ sr_ws := sr_wt 303 (by decide +kernel) (by decide +kernel)
theorem sw_304 : (Cond.instanceMethod yX7_slip : Cond) ∈ sr_ws := sr_wt 304 (by decide +kernel) (by decide +kernel)
theorem sw_305 : (Cond.selects RX7 yX7_slip yX7_slip : Cond) ∈ sr_ws := sr_wt 305 (by decide +kernel) (by decide +kernel)
theorem sw_306 : (Cond.code yX7_slip cX7_slip 3 (some .int) : Cond) ∈ sr_ws := sr_wt 306 (by decide +kernel) (by decide +kernel)
theorem sw_307 : (Cond.methodLink RL 52 yX7_read : Cond) ∈ sr_ws := sr_wt 307 (by decide +kernel) (by decide +kernel)
theorem sw_308 : (Cond.instanceMethod yX7_read : Cond) ∈ sr_ws := sr_wt 308 (by decide +kernel) (by decide +kernel)
theorem sw_309 : (Cond.selects RX7 yX7_read yX7_read : Cond) ∈ sr_ws := sr_wt 309 (by decide +kernel) (by decide +kernel)
theorem sw_310 : (Cond.code yX7_read cX7_read 5 (some .int) : Cond) ∈ sr_ws := sr_wt 310 (by decide +kernel) (by decide +kernel)
theorem sw_311 : (Cond.methodLink RX7 126 yX7_isNoSheet : Cond) ∈ sr_ws := sr_wt 311 (by decide +kernel) (by decide +kernel)
theorem sw_312 : (Cond.static yX7_isNoSheet : Cond) ∈ sr_ws := sr_wt 312 (by decide +kernel) (by decide +kernel)
theorem sw_313 : (Cond.code yX7_isNoSheet cX7_isNoSheet 1 (some .boolean) : Cond) ∈ sr_ws := sr_wt 313 (by decide +kernel) (by decide +kernel)
theorem sw_314 : (Cond.methodLink RX7 129 yX5_isLost : Cond) ∈ sr_ws := sr_wt 314 (by decide +kernel) (by decide +kernel)
theorem sw_315 : (Cond.instanceMethod yX5_isLost : Cond) ∈ sr_ws := sr_wt 315 (by decide +kernel) (by decide +kernel)
theorem sw_316 : (Cond.selects RX5 yX5_isLost yX5_isLost : Cond) ∈ sr_ws := sr_wt 316 (by decide +kernel) (by decide +kernel)
theorem sw_317 : (Cond.code yX5_isLost cX5_isLost 2 (some .boolean) : Cond) ∈ sr_ws := sr_wt 317 (by decide +kernel) (by decide +kernel)
theorem sw_318 : (Cond.methodLink RX7 132 yX5_found : Cond) ∈ sr_ws := sr_wt 318 (by decide +kernel) (by decide +kernel)
theorem sw_319 : (Cond.instanceMethod yX5_found : Cond) ∈ sr_ws := sr_wt 319 (by decide +kernel) (by decide +kernel)
theorem sw_320 : (Cond.selects RX5 yX5_found yX5_found : Cond) ∈ sr_ws := sr_wt 320 (by decide +kernel) (by decide +kernel)
theorem sw_321 : (Cond.code yX5_found cX5_found 2 (some .int) : Cond) ∈ sr_ws := sr_wt 321 (by decide +kernel) (by decide +kernel)
theorem sw_322 : (Cond.methodLink RX7 139 yJ9_min_7cf53 : Cond) ∈ sr_ws := sr_wt 322 (by decide +kernel) (by decide +kernel)
theorem sw_323 : (Cond.static yJ9_min_7cf53 : Cond) ∈ sr_ws := sr_wt 323 (by decide +kernel) (by decide +kernel)
theorem sw_324 : (Cond.code yJ9_min_7cf53 cJ9_min_7cf53 2 (some .int) : Cond) ∈ sr_ws := sr_wt 324 (by decide +kernel) (by decide +kernel)
theorem sw_325 : (Cond.methodLink RL 56 yX7_takes : Cond) ∈ sr_ws := sr_wt 325 (by decide +kernel) (by decide +kernel)
theorem sw_326 : (Cond.instanceMethod yX7_takes : Cond) ∈ sr_ws := sr_wt 326 (by decide +kernel) (by decide +kernel)
theorem sw_327 : (Cond.selects RX7 yX7_takes yX7_takes : Cond) ∈ sr_ws := sr_wt 327 (by decide +kernel) (by decide +kernel)
theorem sw_328 : (Cond.code yX7_takes cX7_takes 4 (some .int) : Cond) ∈ sr_ws := sr_wt 328 (by decide +kernel) (by decide +kernel)
theorem sw_329 : (Cond.methodLink RX7 148 yX6_span : Cond) ∈ sr_ws := sr_wt 329 (by decide +kernel) (by decide +kernel)
theorem sw_330 : (Cond.instanceMethod yX6_span : Cond) ∈ sr_ws := sr_wt 330 (by decide +kernel) (by decide +kernel)
theorem sw_331 : (Cond.selects RX6 yX6_span yX6_span : Cond) ∈ sr_ws := sr_wt 331 (by decide +kernel) (by decide +kernel)
theorem sw_332 : (Cond.code yX6_span cX6_span 5 (some .int) : Cond) ∈ sr_ws := sr_wt 332 (by decide +kernel) (by decide +kernel)
theorem sw_333 : (Cond.methodLink RX6 34 yJ9_min_7cf53 : Cond) ∈ sr_ws := sr_wt 333 (by decide +kernel) (by decide +kernel)
theorem sw_334 : (Cond.methodLink RL 61 yX7_when : Cond) ∈ sr_ws := sr_wt 334 (by decide +kernel) (by decide +kernel)
theorem sw_335 : (Cond.instanceMethod yX7_when : Cond) ∈ sr_ws := sr_wt 335 (by decide +kernel) (by decide +kernel)
theorem sw_336 : (Cond.selects RX7 yX7_when yX7_when : Cond) ∈ sr_ws := sr_wt 336 (by decide +kernel) (by decide +kernel)
theorem sw_337 : (Cond.code yX7_when cX7_when 4 (some .int) : Cond) ∈ sr_ws := sr_wt 337 (by decide +kernel) (by decide +kernel)
theorem sw_338 : (Cond.methodLink RX7 152 yX3_lacksSomebody : Cond) ∈ sr_ws := sr_wt 338 (by decide +kernel) (by decide +kernel)
theorem sw_339 : (Cond.instanceMethod yX3_lacksSomebody : Cond) ∈ sr_ws := sr_wt 339 (by decide +kernel) (by decide +kernel)
theorem sw_340 : (Cond.selects RX3 yX3_lacksSomebody yX3_lacksSomebody : Cond) ∈ sr_ws := sr_wt 340 (by decide +kernel) (by decide +kernel)
theorem sw_341 : (Cond.code yX3_lacksSomebody cX3_lacksSomebody 5 (some .boolean) : Cond) ∈ sr_ws := sr_wt 341 (by decide +kernel) (by decide +kernel)
theorem sw_342 : (Cond.methodLink RX7 155 yX3_offAt : Cond) ∈ sr_ws := sr_wt 342 (by decide +kernel) (by decide +kernel)
theorem sw_343 : (Cond.instanceMethod yX3_offAt : Cond) ∈ sr_ws := sr_wt 343 (by decide +kernel) (by decide +kernel)
theorem sw_344 : (Cond.selects RX3 yX3_offAt yX3_offAt : Cond) ∈ sr_ws := sr_wt 344 (by decide +kernel) (by decide +kernel)
theorem sw_345 : (Cond.code yX3_offAt cX3_offAt 4 (some .int) : Cond) ∈ sr_ws := sr_wt 345 (by decide +kernel) (by decide +kernel)
theorem sw_346 : (Cond.methodLink RX3 41 yX6_untilNext : Cond) ∈ sr_ws := sr_wt 346 (by decide +kernel) (by decide +kernel)
theorem sw_347 : (Cond.instanceMethod yX6_untilNext : Cond) ∈ sr_ws := sr_wt 347 (by decide +kernel) (by decide +kernel)
theorem sw_348 : (Cond.selects RX6 yX6_untilNext yX6_untilNext : Cond) ∈ sr_ws := sr_wt 348 (by decide +kernel) (by decide +kernel)
theorem sw_349 : (Cond.code yX6_untilNext cX6_untilNext 5 (some .int) : Cond) ∈ sr_ws := sr_wt 349 (by decide +kernel) (by decide +kernel)
theorem sw_350 : (Cond.methodLink RX6 43 yX6_span : Cond) ∈ sr_ws := sr_wt 350 (by decide +kernel) (by decide +kernel)
theorem sw_351 : (Cond.methodLink RX6 47 yJ9_max_7cf53 : Cond) ∈ sr_ws := sr_wt 351 (by decide +kernel) (by decide +kernel)
theorem sw_352 : (Cond.static yJ9_max_7cf53 : Cond) ∈ sr_ws := sr_wt 352 (by decide +kernel) (by decide +kernel)
theorem sw_353 : (Cond.code yJ9_max_7cf53 cJ9_max_7cf53 2 (some .int) : Cond) ∈ sr_ws := sr_wt 353 (by decide +kernel) (by decide +kernel)
theorem sw_354 : (Cond.methodLink RL 65 yX7_meet : Cond) ∈ sr_ws := sr_wt 354 (by decide +kernel) (by decide +kernel)
theorem sw_355 : (Cond.instanceMethod yX7_meet : Cond) ∈ sr_ws := sr_wt 355 (by decide +kernel) (by decide +kernel)
theorem sw_356 : (Cond.selects RX7 yX7_meet yX7_meet : Cond) ∈ sr_ws := sr_wt 356 (by decide +kernel) (by decide +kernel)
theorem sw_357 : (Cond.code yX7_meet cX7_meet 2 (some .int) : Cond) ∈ sr_ws := sr_wt 357 (by decide +kernel) (by decide +kernel)
theorem sw_358 : (Cond.methodLink RX7 158 yX3_meeting : Cond) ∈ sr_ws := sr_wt 358 (by decide +kernel) (by decide +kernel)
theorem sw_359 : (Cond.instanceMethod yX3_meeting : Cond) ∈ sr_ws := sr_wt 359 (by decide +kernel) (by decide +kernel)
theorem sw_360 : (Cond.selects RX3 yX3_meeting yX3_meeting : Cond) ∈ sr_ws := sr_wt 360 (by decide +kernel) (by decide +kernel)
theorem sw_361 : (Cond.code yX3_meeting cX3_meeting 3 (some .int) : Cond) ∈ sr_ws := sr_wt 361 (by decide +kernel) (by decide +kernel)
theorem sw_362 : (Cond.methodLink RX3 47 yX6_meeting : Cond) ∈ sr_ws := sr_wt 362 (by decide +kernel) (by decide +kernel)
theorem sw_363 : (Cond.instanceMethod yX6_meeting : Cond) ∈ sr_ws := sr_wt 363 (by decide +kernel) (by decide +kernel)
theorem sw_364 : (Cond.selects RX6 yX6_meeting yX6_meeting : Cond) ∈ sr_ws := sr_wt 364 (by decide +kernel) (by decide +kernel)
theorem sw_365 : (Cond.code yX6_meeting cX6_meeting 8 (some .int) : Cond) ∈ sr_ws := sr_wt 365 (by decide +kernel) (by decide +kernel)
theorem sw_366 : (Cond.methodLink RX6 50 yX6_pace : Cond) ∈ sr_ws := sr_wt 366 (by decide +kernel) (by decide +kernel)
theorem sw_367 : (Cond.instanceMethod yX6_pace : Cond) ∈ sr_ws := sr_wt 367 (by decide +kernel) (by decide +kernel)
theorem sw_368 : (Cond.selects RX6 yX6_pace yX6_pace : Cond) ∈ sr_ws := sr_wt 368 (by decide +kernel) (by decide +kernel)
theorem sw_369 : (Cond.code yX6_pace cX6_pace 3 (some .int) : Cond) ∈ sr_ws := sr_wt 369 (by decide +kernel) (by decide +kernel)
theorem sw_370 : (Cond.methodLink RX6 53 yX6_headroom : Cond) ∈ sr_ws := sr_wt 370 (by decide +kernel) (by decide +kernel)
theorem sw_372 : (Cond.instanceMethod yX6_headroom : Cond) ∈ sr_ws := sr_wt 372 (by decide +kernel) (by decide +kernel)
theorem sw_373 : (Cond.code yX6_headroom cX6_headroom 7 (some .int) : Cond) ∈ sr_ws := sr_wt 373 (by decide +kernel) (by decide +kernel)
theorem sw_374 : (Cond.methodLink RL 69 yX7_kind : Cond) ∈ sr_ws := sr_wt 374 (by decide +kernel) (by decide +kernel)
theorem sw_375 : (Cond.instanceMethod yX7_kind : Cond) ∈ sr_ws := sr_wt 375 (by decide +kernel) (by decide +kernel)
theorem sw_376 : (Cond.selects RX7 yX7_kind yX7_kind : Cond) ∈ sr_ws := sr_wt 376 (by decide +kernel) (by decide +kernel)
theorem sw_377 : (Cond.code yX7_kind cX7_kind 2 (some .int) : Cond) ∈ sr_ws := sr_wt 377 (by decide +kernel) (by decide +kernel)
theorem sw_378 : (Cond.methodLink RX7 161 yX6_kindOf : Cond) ∈ sr_ws := sr_wt 378 (by decide +kernel) (by decide +kernel)
theorem sw_379 : (Cond.instanceMethod yX6_kindOf : Cond) ∈ sr_ws := sr_wt 379 (by decide +kernel) (by decide +kernel)
theorem sw_380 : (Cond.selects RX6 yX6_kindOf yX6_kindOf : Cond) ∈ sr_ws := sr_wt 380 (by decide +kernel) (by decide +kernel)
theorem sw_381 : (Cond.code yX6_kindOf cX6_kindOf 2 (some .int) : Cond) ∈ sr_ws := sr_wt 381 (by decide +kernel) (by decide +kernel)
theorem sw_382 : (Cond.methodLink RL 73 yX7_time : Cond) ∈ sr_ws := sr_wt 382 (by decide +kernel) (by decide +kernel)
theorem sw_383 : (Cond.instanceMethod yX7_time : Cond) ∈ sr_ws := sr_wt 383 (by decide +kernel) (by decide +kernel)
theorem sw_384 : (Cond.selects RX7 yX7_time yX7_time : Cond) ∈ sr_ws := sr_wt 384 (by decide +kernel) (by decide +kernel)
theorem sw_385 : (Cond.code yX7_time cX7_time 1 (some .int) : Cond) ∈ sr_ws := sr_wt 385 (by decide +kernel) (by decide +kernel)
theorem sw_386 : (Cond.methodLink RX7 164 yX3_timeBy : Cond) ∈ sr_ws := sr_wt 386 (by decide +kernel) (by decide +kernel)
theorem sw_387 : (Cond.instanceMethod yX3_timeBy : Cond) ∈ sr_ws := sr_wt 387 (by decide +kernel) (by decide +kernel)
theorem sw_388 : (Cond.selects RX3 yX3_timeBy yX3_timeBy : Cond) ∈ sr_ws := sr_wt 388 (by decide +kernel) (by decide +kernel)
theorem sw_389 : (Cond.code yX3_timeBy cX3_timeBy 5 (some .int) : Cond) ∈ sr_ws := sr_wt 389 (by decide +kernel) (by decide +kernel)
theorem sw_390 : (Cond.methodLink RX3 54 yX6_leg : Cond) ∈ sr_ws := sr_wt 390 (by decide +kernel) (by decide +kernel)
theorem sw_391 : (Cond.instanceMethod yX6_leg : Cond) ∈ sr_ws := sr_wt 391 (by decide +kernel) (by decide +kernel)
theorem sw_392 : (Cond.selects RX6 yX6_leg yX6_leg : Cond) ∈ sr_ws := sr_wt 392 (by decide +kernel) (by decide +kernel)
theorem sw_393 : (Cond.code yX6_leg cX6_leg 7 (some .int) : Cond) ∈ sr_ws := sr_wt 393 (by decide +kernel) (by decide +kernel)
theorem sw_394 : (Cond.methodLink RX6 57 yX6_meeting : Cond) ∈ sr_ws := sr_wt 394 (by decide +kernel) (by decide +kernel)
theorem sw_395 : (Cond.methodLink RX6 60 yX6_untilNext : Cond) ∈ sr_ws := sr_wt 395 (by decide +kernel) (by decide +kernel)
theorem sw_396 : (Cond.methodLink RX3 57 yX6_span : Cond) ∈ sr_ws := sr_wt 396 (by decide +kernel) (by decide +kernel)
theorem sw_397 : (Cond.methodLink RL 77 yX7_carries : Cond) ∈ sr_ws := sr_wt 397 (by decide +kernel) (by decide +kernel)
theorem sw_398 : (Cond.instanceMethod yX7_carries : Cond) ∈ sr_ws := sr_wt 398 (by decide +kernel) (by decide +kernel)
theorem sw_399 : (Cond.selects RX7 yX7_carries yX7_carries : Cond) ∈ sr_ws := sr_wt 399 (by decide +kernel) (by decide +kernel)
theorem sw_400 : (Cond.code yX7_carries cX7_carries 2 (some .int) : Cond) ∈ sr_ws := sr_wt 400 (by decide +kernel) (by decide +kernel)
theorem sw_401 : (Cond.methodLink RX7 168 yX3_carried : Cond) ∈ sr_ws := sr_wt 401 (by decide +kernel) (by decide +kernel)
theorem sw_402 : (Cond.instanceMethod yX3_carried : Cond) ∈ sr_ws := sr_wt 402 (by decide +kernel) (by decide +kernel)
theorem sw_403 : (Cond.selects RX3 yX3_carried yX3_carried : Cond) ∈ sr_ws := sr_wt 403 (by decide +kernel) (by decide +kernel)
theorem sw_404 : (Cond.code yX3_carried cX3_carried 4 (some .int) : Cond) ∈ sr_ws := sr_wt 404 (by decide +kernel) (by decide +kernel)
theorem sw_405 : (Cond.methodLink RX3 61 yX3_meeting : Cond) ∈ sr_ws := sr_wt 405 (by decide +kernel) (by decide +kernel)
theorem sw_406 : (Cond.methodLink RL 81 yX7_chance : Cond) ∈ sr_ws := sr_wt 406 (by decide +kernel) (by decide +kernel)
theorem sw_407 : (Cond.instanceMethod yX7_chance : Cond) ∈ sr_ws := sr_wt 407 (by decide +kernel) (by decide +kernel)
theorem sw_408 : (Cond.selects RX7 yX7_chance yX7_chance : Cond) ∈ sr_ws := sr_wt 408 (by decide +kernel) (by decide +kernel)
theorem sw_409 : (Cond.code yX7_chance cX7_chance 2 (some .int) : Cond) ∈ sr_ws := sr_wt 409 (by decide +kernel) (by decide +kernel)
theorem sw_410 : (Cond.methodLink RX7 171 yX1_sixteenths : Cond) ∈ sr_ws := sr_wt 410 (by decide +kernel) (by decide +kernel)
theorem sw_411 : (Cond.instanceMethod yX1_sixteenths : Cond) ∈ sr_ws := sr_wt 411 (by decide +kernel) (by decide +kernel)
theorem sw_412 : (Cond.selects RX1 yX1_sixteenths yX1_sixteenths : Cond) ∈ sr_ws := sr_wt 412 (by decide +kernel) (by decide +kernel)
theorem sw_413 : (Cond.code yX1_sixteenths cX1_sixteenths 2 (some .int) : Cond) ∈ sr_ws := sr_wt 413 (by decide +kernel) (by decide +kernel)
theorem sw_414 : (Cond.methodLink RX1 23 yX1_weigh : Cond) ∈ sr_ws := sr_wt 414 (by decide +kernel) (by decide +kernel)
theorem sw_416 : (Cond.instanceMethod yX1_weigh : Cond) ∈ sr_ws := sr_wt 416 (by decide +kernel) (by decide +kernel)
theorem sw_417 : (Cond.code yX1_weigh cX1_weigh 5 none : Cond) ∈ sr_ws := sr_wt 417 (by decide +kernel) (by decide +kernel)
theorem sw_418 : (Cond.methodLink RX1 36 yX1_slipAt : Cond) ∈ sr_ws := sr_wt 418 (by decide +kernel) (by decide +kernel)
theorem sw_420 : (Cond.instanceMethod yX1_slipAt : Cond) ∈ sr_ws := sr_wt 420 (by decide +kernel) (by decide +kernel)
theorem sw_421 : (Cond.code yX1_slipAt cX1_slipAt 2 (some .int) : Cond) ∈ sr_ws := sr_wt 421 (by decide +kernel) (by decide +kernel)
theorem sw_422 : (Cond.methodLink RX1 51 yX6_farthest : Cond) ∈ sr_ws := sr_wt 422 (by decide +kernel) (by decide +kernel)
theorem sw_423 : (Cond.instanceMethod yX6_farthest : Cond) ∈ sr_ws := sr_wt 423 (by decide +kernel) (by decide +kernel)
theorem sw_424 : (Cond.selects RX6 yX6_farthest yX6_farthest : Cond) ∈ sr_ws := sr_wt 424 (by decide +kernel) (by decide +kernel)
theorem sw_425 : (Cond.code yX6_farthest cX6_farthest 8 (some .int) : Cond) ∈ sr_ws := sr_wt 425 (by decide +kernel) (by decide +kernel)
theorem sw_426 : (Cond.methodLink RX1 32 yX1_sharesAt : Cond) ∈ sr_ws := sr_wt 426 (by decide +kernel) (by decide +kernel)
theorem sw_428 : (Cond.instanceMethod yX1_sharesAt : Cond) ∈ sr_ws := sr_wt 428 (by decide +kernel) (by decide +kernel)
theorem sw_429 : (Cond.code yX1_sharesAt cX1_sharesAt 4 (some .int) : Cond) ∈ sr_ws := sr_wt 429 (by decide +kernel) (by decide +kernel)
theorem sw_430 : (Cond.fieldLink RX1 54 "StickRelay$Odds" "SHARES" "[I" : Cond) ∈ sr_ws := sr_wt 430 (by decide +kernel) (by decide +kernel)
theorem st_431 : (Cond.laysStatic "StickRelay$Odds" "SHARES" "[I" : Cond) ∈ lw_tbl := List.mem_append_right _ (List.mem_of_getElem? (i := 431) (by decide +kernel))
theorem sw_432 : (Cond.methodLink RL 85 yX7_all : Cond) ∈ sr_ws := sr_wt 432 (by decide +kernel) (by decide +kernel)
theorem sw_433 : (Cond.instanceMethod yX7_all : Cond) ∈ sr_ws := sr_wt 433 (by decide +kernel) (by decide +kernel)
theorem sw_434 : (Cond.selects RX7 yX7_all yX7_all : Cond) ∈ sr_ws := sr_wt 434 (by decide +kernel) (by decide +kernel)
theorem sw_435 : (Cond.code yX7_all cX7_all 2 (some .long) : Cond) ∈ sr_ws := sr_wt 435 (by decide +kernel) (by decide +kernel)
theorem sw_436 : (Cond.constantLong RX7 174 (-9223372036854775806) : Cond) ∈ sr_ws := sr_wt 436 (by decide +kernel) (by decide +kernel)
theorem sw_437 : (Cond.constantLong RX7 176 (-9223372036854775805) : Cond) ∈ sr_ws := sr_wt 437 (by decide +kernel) (by decide +kernel)
theorem sw_438 : (Cond.methodLink RX7 178 yX1_fractionOfAll : Cond) ∈ sr_ws := sr_wt 438 (by decide +kernel) (by decide +kernel)
theorem sw_439 : (Cond.instanceMethod yX1_fractionOfAll : Cond) ∈ sr_ws := sr_wt 439 (by decide +kernel) (by decide +kernel)
theorem sw_440 : (Cond.selects RX1 yX1_fractionOfAll yX1_fractionOfAll : Cond) ∈ sr_ws := sr_wt 440 (by decide +kernel) (by decide +kernel)
theorem sw_441 : (Cond.code yX1_fractionOfAll cX1_fractionOfAll 5 (some .int) : Cond) ∈ sr_ws := sr_wt 441 (by decide +kernel) (by decide +kernel)
theorem sw_442 : (Cond.methodLink RL 90 yX7_safe : Cond) ∈ sr_ws := sr_wt 442 (by decide +kernel) (by decide +kernel)
theorem sw_443 : (Cond.instanceMethod yX7_safe : Cond) ∈ sr_ws := sr_wt 443 (by decide +kernel) (by decide +kernel)
theorem sw_444 : (Cond.selects RX7 yX7_safe yX7_safe : Cond) ∈ sr_ws := sr_wt 444 (by decide +kernel) (by decide +kernel)
theorem sw_445 : (Cond.code yX7_safe cX7_safe 3 (some .int) : Cond) ∈ sr_ws := sr_wt 445 (by decide +kernel) (by decide +kernel)
theorem sw_446 : (Cond.methodLink RX7 181 yX1_safest : Cond) ∈ sr_ws := sr_wt 446 (by decide +kernel) (by decide +kernel)
theorem sw_447 : (Cond.instanceMethod yX1_safest : Cond) ∈ sr_ws := sr_wt 447 (by decide +kernel) (by decide +kernel)
theorem sw_448 : (Cond.selects RX1 yX1_safest yX1_safest : Cond) ∈ sr_ws := sr_wt 448 (by decide +kernel) (by decide +kernel)
theorem sw_449 : (Cond.code yX1_safest cX1_safest 4 (some .int) : Cond) ∈ sr_ws := sr_wt 449 (by decide +kernel) (by decide +kernel)
theorem sw_450 : (Cond.methodLink RL 94 yX7_best : Cond) ∈ sr_ws := sr_wt 450 (by decide +kernel) (by decide +kernel)
theorem sw_451 : (Cond.instanceMethod yX7_best : Cond) ∈ sr_ws := sr_wt 451 (by decide +kernel) (by decide +kernel)
theorem sw_452 : (Cond.selects RX7 yX7_best yX7_best : Cond) ∈ sr_ws := sr_wt 452 (by decide +kernel) (by decide +kernel)
theorem sw_453 : (Cond.code yX7_best cX7_best 2 (some .int) : Cond) ∈ sr_ws := sr_wt 453 (by decide +kernel) (by decide +kernel)
theorem sw_454 : (Cond.methodLink RX7 184 yX3_bestMark : Cond) ∈ sr_ws := sr_wt 454 (by decide +kernel) (by decide +kernel)
theorem sw_455 : (Cond.instanceMethod yX3_bestMark : Cond) ∈ sr_ws := sr_wt 455 (by decide +kernel) (by decide +kernel)
theorem sw_456 : (Cond.selects RX3 yX3_bestMark yX3_bestMark : Cond) ∈ sr_ws := sr_wt 456 (by decide +kernel) (by decide +kernel)
theorem sw_457 : (Cond.code yX3_bestMark cX3_bestMark 2 (some .int) : Cond) ∈ sr_ws := sr_wt 457 (by decide +kernel) (by decide +kernel)
theorem sw_458 : (Cond.methodLink RX3 51 yX6_farthest : Cond) ∈ sr_ws := sr_wt 458 (by decide +kernel) (by decide +kernel)
theorem sw_459 : (Cond.methodLink RL 98 yX7_order : Cond) ∈ sr_ws := sr_wt 459 (by decide +kernel) (by decide +kernel)
theorem sw_460 : (Cond.instanceMethod yX7_order : Cond) ∈ sr_ws := sr_wt 460 (by decide +kernel) (by decide +kernel)
theorem sw_461 : (Cond.selects RX7 yX7_order yX7_order : Cond) ∈ sr_ws := sr_wt 461 (by decide +kernel) (by decide +kernel)
theorem sw_462 : (Cond.code yX7_order cX7_order 3 (some .int) : Cond) ∈ sr_ws := sr_wt 462 (by decide +kernel) (by decide +kernel)
theorem sw_463 : (Cond.methodLink RX7 187 yX2_search : Cond) ∈ sr_ws := sr_wt 463 (by decide +kernel) (by decide +kernel)
theorem sw_464 : (Cond.instanceMethod yX2_search : Cond) ∈ sr_ws := sr_wt 464 (by decide +kernel) (by decide +kernel)
theorem sw_465 : (Cond.selects RX2 yX2_search yX2_search : Cond) ∈ sr_ws := sr_wt 465 (by decide +kernel) (by decide +kernel)
theorem sw_466 : (Cond.code yX2_search cX2_search 8 none : Cond) ∈ sr_ws := sr_wt 466 (by decide +kernel) (by decide +kernel)
theorem sw_467 : (Cond.methodLink RX2 31 yJ7_fill_53178 : Cond) ∈ sr_ws := sr_wt 467 (by decide +kernel) (by decide +kernel)
theorem sw_468 : (Cond.static yJ7_fill_53178 : Cond) ∈ sr_ws := sr_wt 468 (by decide +kernel) (by decide +kernel)
theorem sw_469 : (Cond.code yJ7_fill_53178 cJ7_fill_53178 4 none : Cond) ∈ sr_ws := sr_wt 469 (by decide +kernel) (by decide +kernel)
theorem sw_470 : (Cond.methodLink RX2 37 yX2_weighPairs : Cond) ∈ sr_ws := sr_wt 470 (by decide +kernel) (by decide +kernel)
theorem sw_472 : (Cond.instanceMethod yX2_weighPairs : Cond) ∈ sr_ws := sr_wt 472 (by decide +kernel) (by decide +kernel)
theorem sw_473 : (Cond.code yX2_weighPairs cX2_weighPairs 6 none : Cond) ∈ sr_ws := sr_wt 473 (by decide +kernel) (by decide +kernel)
theorem sw_474 : (Cond.methodLink RX2 59 yX6_farthest : Cond) ∈ sr_ws := sr_wt 474 (by decide +kernel) (by decide +kernel)
theorem sw_475 : (Cond.methodLink RX2 65 yX6_leg : Cond) ∈ sr_ws := sr_wt 475 (by decide +kernel) (by decide +kernel)
theorem sw_476 : (Cond.methodLink RX2 47 yX2_areUnlike : Cond) ∈ sr_ws := sr_wt 476 (by decide +kernel) (by decide +kernel)
theorem sw_477 : (Cond.static yX2_areUnlike : Cond) ∈ sr_ws := sr_wt 477 (by decide +kernel) (by decide +kernel)
theorem sw_478 : (Cond.code yX2_areUnlike cX2_areUnlike 6 (some .boolean) : Cond) ∈ sr_ws := sr_wt 478 (by decide +kernel) (by decide +kernel)
theorem sw_479 : (Cond.methodLink RX2 69 yJ6_bitCount_0f7a4 : Cond) ∈ sr_ws := sr_wt 479 (by decide +kernel) (by decide +kernel)
theorem sw_480 : (Cond.static yJ6_bitCount_0f7a4 : Cond) ∈ sr_ws := sr_wt 480 (by decide +kernel) (by decide +kernel)
theorem sw_481 : (Cond.code yJ6_bitCount_0f7a4 cJ6_bitCount_0f7a4 1 (some .int) : Cond) ∈ sr_ws := sr_wt 481 (by decide +kernel) (by decide +kernel)
theorem sw_482 : (Cond.constant RJ6 265 (1431655765) : Cond) ∈ sr_ws := sr_wt 482 (by decide +kernel) (by decide +kernel)
theorem sw_483 : (Cond.constant RJ6 266 (858993459) : Cond) ∈ sr_ws := sr_wt 483 (by decide +kernel) (by decide +kernel)
theorem sw_484 : (Cond.constant RJ6 267 (252645135) : Cond) ∈ sr_ws := sr_wt 484 (by decide +kernel) (by decide +kernel)
theorem sw_485 : (Cond.methodLink RX2 51 yX2_canChangeHands : Cond) ∈ sr_ws := sr_wt 485 (by decide +kernel) (by decide +kernel)
theorem sw_487 : (Cond.instanceMethod yX2_canChangeHands : Cond) ∈ sr_ws := sr_wt 487 (by decide +kernel) (by decide +kernel)
theorem sw_488 : (Cond.code yX2_canChangeHands cX2_canChangeHands 7 (some .boolean) : Cond) ∈ sr_ws := sr_wt 488 (by decide +kernel) (by decide +kernel)
theorem sw_489 : (Cond.methodLink RX2 55 yX2_consider : Cond) ∈ sr_ws := sr_wt 489 (by decide +kernel) (by decide +kernel)
theorem sw_491 : (Cond.instanceMethod yX2_consider : Cond) ∈ sr_ws := sr_wt 491 (by decide +kernel) (by decide +kernel)
theorem sw_492 : (Cond.code yX2_consider cX2_consider 9 none : Cond) ∈ sr_ws := sr_wt 492 (by decide +kernel) (by decide +kernel)
theorem sw_493 : (Cond.methodLink RX2 78 yX6_span : Cond) ∈ sr_ws := sr_wt 493 (by decide +kernel) (by decide +kernel)
theorem sw_494 : (Cond.methodLink RL 102 yX7_blame : Cond) ∈ sr_ws := sr_wt 494 (by decide +kernel) (by decide +kernel)
theorem sw_495 : (Cond.instanceMethod yX7_blame : Cond) ∈ sr_ws := sr_wt 495 (by decide +kernel) (by decide +kernel)
theorem sw_496 : (Cond.selects RX7 yX7_blame yX7_blame : Cond) ∈ sr_ws := sr_wt 496 (by decide +kernel) (by decide +kernel)
theorem sw_497 : (Cond.code yX7_blame cX7_blame 3 (some .int) : Cond) ∈ sr_ws := sr_wt 497 (by decide +kernel) (by decide +kernel)
theorem sw_498 : (Cond.methodLink RX7 197 yX1_guilty : Cond) ∈ sr_ws := sr_wt 498 (by decide +kernel) (by decide +kernel)
theorem sw_499 : (Cond.instanceMethod yX1_guilty : Cond) ∈ sr_ws := sr_wt 499 (by decide +kernel) (by decide +kernel)
theorem sw_500 : (Cond.selects RX1 yX1_guilty yX1_guilty : Cond) ∈ sr_ws := sr_wt 500 (by decide +kernel) (by decide +kernel)
theorem sw_501 : (Cond.code yX1_guilty cX1_guilty 5 (some .int) : Cond) ∈ sr_ws := sr_wt 501 (by decide +kernel) (by decide +kernel)
theorem sw_502 : (Cond.methodLink RX1 39 yX3_meeting : Cond) ∈ sr_ws := sr_wt 502 (by decide +kernel) (by decide +kernel)
theorem sw_503 : (Cond.methodLink RL 106 yX7_lot : Cond) ∈ sr_ws := sr_wt 503 (by decide +kernel) (by decide +kernel)
theorem sw_504 : (Cond.instanceMethod yX7_lot : Cond) ∈ sr_ws := sr_wt 504 (by decide +kernel) (by decide +kernel)
theorem sw_505 : (Cond.selects RX7 yX7_lot yX7_lot : Cond) ∈ sr_ws := sr_wt 505 (by decide +kernel) (by decide +kernel)
theorem sw_506 : (Cond.code yX7_lot cX7_lot 2 (some .int) : Cond) ∈ sr_ws := sr_wt 506 (by decide +kernel) (by decide +kernel)
theorem sw_507 : (Cond.methodLink RX7 203 yX0_drawSlips : Cond) ∈ sr_ws := sr_wt 507 (by decide +kernel) (by decide +kernel)
theorem sw_508 : (Cond.instanceMethod yX0_drawSlips : Cond) ∈ sr_ws := sr_wt 508 (by decide +kernel) (by decide +kernel)
theorem sw_509 : (Cond.selects RX0 yX0_drawSlips yX0_drawSlips : Cond) ∈ sr_ws := sr_wt 509 (by decide +kernel) (by decide +kernel)
theorem sw_510 : (Cond.code yX0_drawSlips cX0_drawSlips 3 none : Cond) ∈ sr_ws := sr_wt 510 (by decide +kernel) (by decide +kernel)
theorem sw_511 : (Cond.fieldLink RX0 19 "StickRelay$Lots" "STEPS" "[I" : Cond) ∈ sr_ws := sr_wt 511 (by decide +kernel) (by decide +kernel)
theorem st_512 : (Cond.laysStatic "StickRelay$Lots" "STEPS" "[I" : Cond) ∈ lw_tbl := List.mem_append_right _ (List.mem_of_getElem? (i := 512) (by decide +kernel))
theorem sw_513 : (Cond.methodLink RX0 22 yX0_lotOfSixteen : Cond) ∈ sr_ws := sr_wt 513 (by decide +kernel) (by decide +kernel)
theorem sw_515 : (Cond.instanceMethod yX0_lotOfSixteen : Cond) ∈ sr_ws := sr_wt 515 (by decide +kernel) (by decide +kernel)
theorem sw_516 : (Cond.code yX0_lotOfSixteen cX0_lotOfSixteen 1 (some .int) : Cond) ∈ sr_ws := sr_wt 516 (by decide +kernel) (by decide +kernel)
theorem sw_517 : (Cond.constant RX0 26 (1103515245) : Cond) ∈ sr_ws := sr_wt 517 (by decide +kernel) (by decide +kernel)
theorem sw_518 : (Cond.methodLink RL 110 yX7_races : Cond) ∈ sr_ws := sr_wt 518 (by decide +kernel) (by decide +kernel)
theorem sw_519 : (Cond.instanceMethod yX7_races : Cond) ∈ sr_ws := sr_wt 519 (by decide +kernel) (by decide +kernel)
theorem sw_520 : (Cond.selects RX7 yX7_races yX7_races : Cond) ∈ sr_ws := sr_wt 520 (by decide +kernel) (by decide +kernel)
theorem sw_521 : (Cond.code yX7_races cX7_races 7 (some .int) : Cond) ∈ sr_ws := sr_wt 521 (by decide +kernel) (by decide +kernel)
theorem sw_522 : (Cond.constant RX7 207 (99999) : Cond) ∈ sr_ws := sr_wt 522 (by decide +kernel) (by decide +kernel)
theorem sw_523 : (Cond.methodLink RL 114 yX7_sheet : Cond) ∈ sr_ws := sr_wt 523 (by decide +kernel) (by decide +kernel)
theorem sw_524 : (Cond.instanceMethod yX7_sheet : Cond) ∈ sr_ws := sr_wt 524 (by decide +kernel) (by decide +kernel)
theorem sw_525 : (Cond.selects RX7 yX7_sheet yX7_sheet : Cond) ∈ sr_ws := sr_wt 525 (by decide +kernel) (by decide +kernel)
theorem sw_526 : (Cond.code yX7_sheet cX7_sheet 4 (some .int) : Cond) ∈ sr_ws := sr_wt 526 (by decide +kernel) (by decide +kernel)
theorem sw_527 : (Cond.methodLink RX7 208 yX7_isNoForm : Cond) ∈ sr_ws := sr_wt 527 (by decide +kernel) (by decide +kernel)
theorem sw_528 : (Cond.static yX7_isNoForm : Cond) ∈ sr_ws := sr_wt 528 (by decide +kernel) (by decide +kernel)
theorem sw_529 : (Cond.code yX7_isNoForm cX7_isNoForm 1 (some .boolean) : Cond) ∈ sr_ws := sr_wt 529 (by decide +kernel) (by decide +kernel)
theorem sw_530 : (Cond.methodLink RX7 211 yX5_renew : Cond) ∈ sr_ws := sr_wt 530 (by decide +kernel) (by decide +kernel)
theorem sw_531 : (Cond.instanceMethod yX5_renew : Cond) ∈ sr_ws := sr_wt 531 (by decide +kernel) (by decide +kernel)
theorem sw_532 : (Cond.selects RX5 yX5_renew yX5_renew : Cond) ∈ sr_ws := sr_wt 532 (by decide +kernel) (by decide +kernel)
theorem sw_533 : (Cond.code yX5_renew cX5_renew 4 none : Cond) ∈ sr_ws := sr_wt 533 (by decide +kernel) (by decide +kernel)
theorem sw_534 : (Cond.methodLink RX5 27 yJ7_fill_53178 : Cond) ∈ sr_ws := sr_wt 534 (by decide +kernel) (by decide +kernel)
theorem sw_535 : (Cond.methodLink RL 118 yX7_lose : Cond) ∈ sr_ws := sr_wt 535 (by decide +kernel) (by decide +kernel)
theorem sw_536 : (Cond.instanceMethod yX7_lose : Cond) ∈ sr_ws := sr_wt 536 (by decide +kernel) (by decide +kernel)
theorem sw_537 : (Cond.selects RX7 yX7_lose yX7_lose : Cond) ∈ sr_ws := sr_wt 537 (by decide +kernel) (by decide +kernel)
theorem sw_538 : (Cond.code yX7_lose cX7_lose 2 (some .int) : Cond) ∈ sr_ws := sr_wt 538 (by decide +kernel) (by decide +kernel)
theorem sw_539 : (Cond.methodLink RL 122 yX7_lay : Cond) ∈ sr_ws := sr_wt 539 (by decide +kernel) (by decide +kernel)
theorem sw_540 : (Cond.instanceMethod yX7_lay : Cond) ∈ sr_ws := sr_wt 540 (by decide +kernel) (by decide +kernel)
theorem sw_541 : (Cond.selects RX7 yX7_lay yX7_lay : Cond) ∈ sr_ws := sr_wt 541 (by decide +kernel) (by decide +kernel)
theorem sw_542 : (Cond.code yX7_lay cX7_lay 6 (some .int) : Cond) ∈ sr_ws := sr_wt 542 (by decide +kernel) (by decide +kernel)
theorem sw_543 : (Cond.methodLink RX7 215 yX5_check : Cond) ∈ sr_ws := sr_wt 543 (by decide +kernel) (by decide +kernel)
theorem sw_544 : (Cond.instanceMethod yX5_check : Cond) ∈ sr_ws := sr_wt 544 (by decide +kernel) (by decide +kernel)
theorem sw_545 : (Cond.selects RX5 yX5_check yX5_check : Cond) ∈ sr_ws := sr_wt 545 (by decide +kernel) (by decide +kernel)
theorem sw_546 : (Cond.code yX5_check cX5_check 4 (some .int) : Cond) ∈ sr_ws := sr_wt 546 (by decide +kernel) (by decide +kernel)
theorem sw_547 : (Cond.methodLink RX5 33 yX5_isLost : Cond) ∈ sr_ws := sr_wt 547 (by decide +kernel) (by decide +kernel)
theorem st_548 : (Cond.methodLinkNest RX5 37 yX7_outside RX7 : Cond) ∈ lw_tbl := List.mem_append_right _ (List.mem_of_getElem? (i := 548) (by decide +kernel))
theorem sw_549 : (Cond.methodLink RX7 218 yX5_put : Cond) ∈ sr_ws := sr_wt 549 (by decide +kernel) (by decide +kernel)
theorem sw_550 : (Cond.instanceMethod yX5_put : Cond) ∈ sr_ws := sr_wt 550 (by decide +kernel) (by decide +kernel)
theorem sw_551 : (Cond.selects RX5 yX5_put yX5_put : Cond) ∈ sr_ws := sr_wt 551 (by decide +kernel) (by decide +kernel)
theorem sw_552 : (Cond.code yX5_put cX5_put 4 none : Cond) ∈ sr_ws := sr_wt 552 (by decide +kernel) (by decide +kernel)
theorem sw_553 : (Cond.methodLink RL 127 yX7_get : Cond) ∈ sr_ws := sr_wt 553 (by decide +kernel) (by decide +kernel)
theorem sw_554 : (Cond.instanceMethod yX7_get : Cond) ∈ sr_ws := sr_wt 554 (by decide +kernel) (by decide +kernel)
theorem sw_555 : (Cond.selects RX7 yX7_get yX7_get : Cond) ∈ sr_ws := sr_wt 555 (by decide +kernel) (by decide +kernel)
theorem sw_556 : (Cond.code yX7_get cX7_get 5 (some .int) : Cond) ∈ sr_ws := sr_wt 556 (by decide +kernel) (by decide +kernel)
theorem sw_557 : (Cond.constant RX7 221 (-2147483648) : Cond) ∈ sr_ws := sr_wt 557 (by decide +kernel) (by decide +kernel)
theorem sw_558 : (Cond.methodLink RL 131 yX7_copy : Cond) ∈ sr_ws := sr_wt 558 (by decide +kernel) (by decide +kernel)
theorem sw_559 : (Cond.instanceMethod yX7_copy : Cond) ∈ sr_ws := sr_wt 559 (by decide +kernel) (by decide +kernel)
theorem sw_560 : (Cond.selects RX7 yX7_copy yX7_copy : Cond) ∈ sr_ws := sr_wt 560 (by decide +kernel) (by decide +kernel)
theorem sw_561 : (Cond.code yX7_copy cX7_copy 6 (some .int) : Cond) ∈ sr_ws := sr_wt 561 (by decide +kernel) (by decide +kernel)
theorem sw_562 : (Cond.methodLink RX7 225 yX5_holds : Cond) ∈ sr_ws := sr_wt 562 (by decide +kernel) (by decide +kernel)
theorem sw_563 : (Cond.instanceMethod yX5_holds : Cond) ∈ sr_ws := sr_wt 563 (by decide +kernel) (by decide +kernel)
theorem sw_564 : (Cond.selects RX5 yX5_holds yX5_holds : Cond) ∈ sr_ws := sr_wt 564 (by decide +kernel) (by decide +kernel)
theorem sw_565 : (Cond.code yX5_holds cX5_holds 4 (some .boolean) : Cond) ∈ sr_ws := sr_wt 565 (by decide +kernel) (by decide +kernel)
theorem sw_566 : (Cond.methodLink RX7 228 ⟨"java/lang/System", "arraycopy", "(Ljava/lang/Object;ILjava/lang/Object;II)V"⟩ : Cond) ∈ sr_ws := sr_wt 566 (by decide +kernel) (by decide +kernel)
theorem sw_567 : (Cond.static ⟨"java/lang/System", "arraycopy", "(Ljava/lang/Object;ILjava/lang/Object;II)V"⟩ : Cond) ∈ sr_ws := sr_wt 567 (by decide +kernel) (by decide +kernel)
theorem sw_568 : (Cond.native ⟨"java/lang/System", "arraycopy", "(Ljava/lang/Object;ILjava/lang/Object;II)V"⟩ : Cond) ∈ sr_ws := sr_wt 568 (by decide +kernel) (by decide +kernel)
theorem sw_569 : (Cond.methodLink RL 136 yX7_write : Cond) ∈ sr_ws := sr_wt 569 (by decide +kernel) (by decide +kernel)
theorem sw_570 : (Cond.instanceMethod yX7_write : Cond) ∈ sr_ws := sr_wt 570 (by decide +kernel) (by decide +kernel)
theorem sw_571 : (Cond.selects RX7 yX7_write yX7_write : Cond) ∈ sr_ws := sr_wt 571 (by decide +kernel) (by decide +kernel)
theorem sw_572 : (Cond.code yX7_write cX7_write 4 (some .int) : Cond) ∈ sr_ws := sr_wt 572 (by decide +kernel) (by decide +kernel)
theorem sw_573 : (Cond.methodLink RL 140 yX7_count : Cond) ∈ sr_ws := sr_wt 573 (by decide +kernel) (by decide +kernel)
theorem sw_574 : (Cond.instanceMethod yX7_count : Cond) ∈ sr_ws := sr_wt 574 (by decide +kernel) (by decide +kernel)
theorem sw_575 : (Cond.selects RX7 yX7_count yX7_count : Cond) ∈ sr_ws := sr_wt 575 (by decide +kernel) (by decide +kernel)
theorem sw_576 : (Cond.code yX7_count cX7_count 2 (some .int) : Cond) ∈ sr_ws := sr_wt 576 (by decide +kernel) (by decide +kernel)
theorem sw_577 : (Cond.methodLink RX7 237 yX3_unlikeOnes : Cond) ∈ sr_ws := sr_wt 577 (by decide +kernel) (by decide +kernel)
theorem sw_578 : (Cond.instanceMethod yX3_unlikeOnes : Cond) ∈ sr_ws := sr_wt 578 (by decide +kernel) (by decide +kernel)
theorem sw_579 : (Cond.selects RX3 yX3_unlikeOnes yX3_unlikeOnes : Cond) ∈ sr_ws := sr_wt 579 (by decide +kernel) (by decide +kernel)
theorem sw_580 : (Cond.code yX3_unlikeOnes cX3_unlikeOnes 6 (some .int) : Cond) ∈ sr_ws := sr_wt 580 (by decide +kernel) (by decide +kernel)
theorem sw_581 : (Cond.methodLink RX3 35 yJ6_bitCount_0f7a4 : Cond) ∈ sr_ws := sr_wt 581 (by decide +kernel) (by decide +kernel)
theorem sw_582 : (Cond.methodLink RL 144 yX7_digest : Cond) ∈ sr_ws := sr_wt 582 (by decide +kernel) (by decide +kernel)
theorem sw_583 : (Cond.instanceMethod yX7_digest : Cond) ∈ sr_ws := sr_wt 583 (by decide +kernel) (by decide +kernel)
theorem sw_584 : (Cond.selects RX7 yX7_digest yX7_digest : Cond) ∈ sr_ws := sr_wt 584 (by decide +kernel) (by decide +kernel)
theorem sw_585 : (Cond.code yX7_digest cX7_digest 5 (some .long) : Cond) ∈ sr_ws := sr_wt 585 (by decide +kernel) (by decide +kernel)
theorem sw_586 : (Cond.constantLong RX7 243 (17) : Cond) ∈ sr_ws := sr_wt 586 (by decide +kernel) (by decide +kernel)
theorem sw_587 : (Cond.constantLong RX7 245 (31) : Cond) ∈ sr_ws := sr_wt 587 (by decide +kernel) (by decide +kernel)
theorem sw_588 : (Cond.methodLink RX7 247 yX7_count : Cond) ∈ sr_ws := sr_wt 588 (by decide +kernel) (by decide +kernel)
theorem sw_589 : (Cond.methodLink RX7 249 yX7_fault : Cond) ∈ sr_ws := sr_wt 589 (by decide +kernel) (by decide +kernel)
theorem sw_590 : (Cond.methodLink RX7 251 yX7_runner : Cond) ∈ sr_ws := sr_wt 590 (by decide +kernel) (by decide +kernel)
theorem sw_591 : (Cond.methodLink RX7 254 yX7_takes : Cond) ∈ sr_ws := sr_wt 591 (by decide +kernel) (by decide +kernel)
theorem sw_592 : (Cond.methodLink RX7 257 yX7_when : Cond) ∈ sr_ws := sr_wt 592 (by decide +kernel) (by decide +kernel)
theorem sw_593 : (Cond.methodLink RX7 260 yX7_carries : Cond) ∈ sr_ws := sr_wt 593 (by decide +kernel) (by decide +kernel)
theorem sw_594 : (Cond.methodLink RX7 263 yX7_meet : Cond) ∈ sr_ws := sr_wt 594 (by decide +kernel) (by decide +kernel)
theorem sw_595 : (Cond.methodLink RX7 266 yX7_kind : Cond) ∈ sr_ws := sr_wt 595 (by decide +kernel) (by decide +kernel)
theorem sw_596 : (Cond.methodLink RX7 269 yX7_chance : Cond) ∈ sr_ws := sr_wt 596 (by decide +kernel) (by decide +kernel)
theorem sw_597 : (Cond.methodLink RX7 272 yX7_safe : Cond) ∈ sr_ws := sr_wt 597 (by decide +kernel) (by decide +kernel)
theorem sw_598 : (Cond.methodLink RX7 275 yX7_best : Cond) ∈ sr_ws := sr_wt 598 (by decide +kernel) (by decide +kernel)
theorem sw_599 : (Cond.methodLink RX7 278 yX7_blame : Cond) ∈ sr_ws := sr_wt 599 (by decide +kernel) (by decide +kernel)
theorem sw_600 : (Cond.methodLink RX7 281 yX7_time : Cond) ∈ sr_ws := sr_wt 600 (by decide +kernel) (by decide +kernel)
theorem sw_601 : (Cond.methodLink RX7 284 yX7_all : Cond) ∈ sr_ws := sr_wt 601 (by decide +kernel) (by decide +kernel)
theorem sw_602 : (Cond.methodLink RX7 288 yX7_lot : Cond) ∈ sr_ws := sr_wt 602 (by decide +kernel) (by decide +kernel)
theorem sw_603 : (Cond.methodLink RX7 291 yX7_races : Cond) ∈ sr_ws := sr_wt 603 (by decide +kernel) (by decide +kernel)
theorem sw_604 : (Cond.classLink RL 10 RX8 : Cond) ∈ sr_ws := sr_wt 604 (by decide +kernel) (by decide +kernel)
theorem sw_605 : (Cond.instantiable RX8 17 : Cond) ∈ sr_ws := sr_wt 605 (by decide +kernel) (by decide +kernel)
theorem sw_606 : (Cond.methodLink RL 12 yX8_init : Cond) ∈ sr_ws := sr_wt 606 (by decide +kernel) (by decide +kernel)
theorem sw_607 : (Cond.instanceMethod yX8_init : Cond) ∈ sr_ws := sr_wt 607 (by decide +kernel) (by decide +kernel)
theorem sw_608 : (Cond.code yX8_init cX8_init 2 none : Cond) ∈ sr_ws := sr_wt 608 (by decide +kernel) (by decide +kernel)
theorem sw_609 : (Cond.methodLink RX8 1 objectInit : Cond) ∈ sr_ws := sr_wt 609 (by decide +kernel) (by decide +kernel)
theorem sw_610 : (Cond.fieldLink RX8 7 "StickRelayModel" "forms" "[I" : Cond) ∈ sr_ws := sr_wt 610 (by decide +kernel) (by decide +kernel)
theorem sw_611 : (Cond.fieldLink RX8 13 "StickRelayModel" "sizes" "[I" : Cond) ∈ sr_ws := sr_wt 611 (by decide +kernel) (by decide +kernel)
theorem sw_612 : (Cond.fieldLink RX8 16 "StickRelayModel" "items" "[I" : Cond) ∈ sr_ws := sr_wt 612 (by decide +kernel) (by decide +kernel)
theorem sw_613 : (Cond.fieldLink RX8 19 "StickRelayModel" "moved" "[I" : Cond) ∈ sr_ws := sr_wt 613 (by decide +kernel) (by decide +kernel)
theorem sw_614 : (Cond.fieldLink RX8 52 "StickRelayModel" "latest" "I" : Cond) ∈ sr_ws := sr_wt 614 (by decide +kernel) (by decide +kernel)
theorem sw_615 : (Cond.fieldLink RX8 22 "StickRelayModel" "text" "[I" : Cond) ∈ sr_ws := sr_wt 615 (by decide +kernel) (by decide +kernel)
theorem sw_616 : (Cond.fieldLink RX8 79 "StickRelayModel" "typed" "I" : Cond) ∈ sr_ws := sr_wt 616 (by decide +kernel) (by decide +kernel)
theorem sw_617 : (Cond.fieldLink RX8 82 "StickRelayModel" "at" "I" : Cond) ∈ sr_ws := sr_wt 617 (by decide +kernel) (by decide +kernel)
theorem sw_618 : (Cond.fieldLink RX8 85 "StickRelayModel" "runners" "I" : Cond) ∈ sr_ws := sr_wt 618 (by decide +kernel) (by decide +kernel)
theorem sw_619 : (Cond.fieldLink RX8 25 "StickRelayModel" "runner" "[I" : Cond) ∈ sr_ws := sr_wt 619 (by decide +kernel) (by decide +kernel)
theorem sw_620 : (Cond.fieldLink RX8 28 "StickRelayModel" "running" "[I" : Cond) ∈ sr_ws := sr_wt 620 (by decide +kernel) (by decide +kernel)
theorem sw_621 : (Cond.fieldLink RX8 31 "StickRelayModel" "settings" "[I" : Cond) ∈ sr_ws := sr_wt 621 (by decide +kernel) (by decide +kernel)
theorem sw_622 : (Cond.fieldLink RX8 34 "StickRelayModel" "marks" "[I" : Cond) ∈ sr_ws := sr_wt 622 (by decide +kernel) (by decide +kernel)
theorem sw_623 : (Cond.fieldLink RX8 37 "StickRelayModel" "slips" "[I" : Cond) ∈ sr_ws := sr_wt 623 (by decide +kernel) (by decide +kernel)
theorem sw_624 : (Cond.fieldLink RX8 40 "StickRelayModel" "bestOrder" "[I" : Cond) ∈ sr_ws := sr_wt 624 (by decide +kernel) (by decide +kernel)
theorem sw_625 : (Cond.fieldLink RX8 43 "StickRelayModel" "order" "[I" : Cond) ∈ sr_ws := sr_wt 625 (by decide +kernel) (by decide +kernel)
theorem sw_626 : (Cond.fieldLink RX8 224 "StickRelayModel" "now" "I" : Cond) ∈ sr_ws := sr_wt 626 (by decide +kernel) (by decide +kernel)
theorem sw_627 : (Cond.laysFinal "StickRelayModel" "StickRelayModel" "forms" "[I" : Cond) ∈ sr_ws := sr_wt 627 (by decide +kernel) (by decide +kernel)
theorem sw_629 : (Cond.laysFinal "StickRelayModel" "StickRelayModel" "sizes" "[I" : Cond) ∈ sr_ws := sr_wt 629 (by decide +kernel) (by decide +kernel)
theorem sw_631 : (Cond.laysFinal "StickRelayModel" "StickRelayModel" "items" "[I" : Cond) ∈ sr_ws := sr_wt 631 (by decide +kernel) (by decide +kernel)
theorem sw_633 : (Cond.laysFinal "StickRelayModel" "StickRelayModel" "moved" "[I" : Cond) ∈ sr_ws := sr_wt 633 (by decide +kernel) (by decide +kernel)
theorem sw_635 : (Cond.lays "StickRelayModel" "StickRelayModel" "latest" "I" : Cond) ∈ sr_ws := sr_wt 635 (by decide +kernel) (by decide +kernel)
theorem sw_637 : (Cond.laysFinal "StickRelayModel" "StickRelayModel" "text" "[I" : Cond) ∈ sr_ws := sr_wt 637 (by decide +kernel) (by decide +kernel)
theorem sw_639 : (Cond.lays "StickRelayModel" "StickRelayModel" "typed" "I" : Cond) ∈ sr_ws := sr_wt 639 (by decide +kernel) (by decide +kernel)
theorem sw_641 : (Cond.lays "StickRelayModel" "StickRelayModel" "at" "I" : Cond) ∈ sr_ws := sr_wt 641 (by decide +kernel) (by decide +kernel)
theorem sw_643 : (Cond.lays "StickRelayModel" "StickRelayModel" "runners" "I" : Cond) ∈ sr_ws := sr_wt 643 (by decide +kernel) (by decide +kernel)
theorem sw_645 : (Cond.laysFinal "StickRelayModel" "StickRelayModel" "runner" "[I" : Cond) ∈ sr_ws := sr_wt 645 (by decide +kernel) (by decide +kernel)
theorem sw_647 : (Cond.laysFinal "StickRelayModel" "StickRelayModel" "running" "[I" : Cond) ∈ sr_ws := sr_wt 647 (by decide +kernel) (by decide +kernel)
theorem sw_649 : (Cond.laysFinal "StickRelayModel" "StickRelayModel" "settings" "[I" : Cond) ∈ sr_ws := sr_wt 649 (by decide +kernel) (by decide +kernel)
theorem sw_651 : (Cond.laysFinal "StickRelayModel" "StickRelayModel" "marks" "[I" : Cond) ∈ sr_ws := sr_wt 651 (by decide +kernel) (by decide +kernel)
theorem sw_653 : (Cond.laysFinal "StickRelayModel" "StickRelayModel" "slips" "[I" : Cond) ∈ sr_ws := sr_wt 653 (by decide +kernel) (by decide +kernel)
theorem sw_655 : (Cond.laysFinal "StickRelayModel" "StickRelayModel" "bestOrder" "[I" : Cond) ∈ sr_ws := sr_wt 655 (by decide +kernel) (by decide +kernel)
theorem sw_657 : (Cond.laysFinal "StickRelayModel" "StickRelayModel" "order" "[I" : Cond) ∈ sr_ws := sr_wt 657 (by decide +kernel) (by decide +kernel)
theorem sw_659 : (Cond.lays "StickRelayModel" "StickRelayModel" "now" "I" : Cond) ∈ sr_ws := sr_wt 659 (by decide +kernel) (by decide +kernel)
theorem sw_662 : (Cond.methodLink RL 117 yX8_sheet : Cond) ∈ sr_ws := sr_wt 662 (by decide +kernel) (by decide +kernel)
theorem sw_663 : (Cond.instanceMethod yX8_sheet : Cond) ∈ sr_ws := sr_wt 663 (by decide +kernel) (by decide +kernel)
theorem sw_664 : (Cond.selects RX8 yX8_sheet yX8_sheet : Cond) ∈ sr_ws := sr_wt 664 (by decide +kernel) (by decide +kernel)
theorem sw_665 : (Cond.code yX8_sheet cX8_sheet 5 (some .int) : Cond) ∈ sr_ws := sr_wt 665 (by decide +kernel) (by decide +kernel)
theorem sw_666 : (Cond.methodLink RX8 58 yX8_isSheet : Cond) ∈ sr_ws := sr_wt 666 (by decide +kernel) (by decide +kernel)
theorem sw_667 : (Cond.static yX8_isSheet : Cond) ∈ sr_ws := sr_wt 667 (by decide +kernel) (by decide +kernel)
theorem sw_668 : (Cond.code yX8_isSheet cX8_isSheet 1 (some .boolean) : Cond) ∈ sr_ws := sr_wt 668 (by decide +kernel) (by decide +kernel)
theorem sw_669 : (Cond.constantLong RX8 56 (3) : Cond) ∈ sr_ws := sr_wt 669 (by decide +kernel) (by decide +kernel)
theorem sw_670 : (Cond.methodLink RX8 48 yX8_in : Cond) ∈ sr_ws := sr_wt 670 (by decide +kernel) (by decide +kernel)
theorem sw_671 : (Cond.static yX8_in : Cond) ∈ sr_ws := sr_wt 671 (by decide +kernel) (by decide +kernel)
theorem sw_672 : (Cond.code yX8_in cX8_in 6 (some .boolean) : Cond) ∈ sr_ws := sr_wt 672 (by decide +kernel) (by decide +kernel)
theorem sw_673 : (Cond.constantLong RX8 62 (2) : Cond) ∈ sr_ws := sr_wt 673 (by decide +kernel) (by decide +kernel)
theorem sw_674 : (Cond.methodLink RX8 64 yX8_met : Cond) ∈ sr_ws := sr_wt 674 (by decide +kernel) (by decide +kernel)
theorem sw_676 : (Cond.instanceMethod yX8_met : Cond) ∈ sr_ws := sr_wt 676 (by decide +kernel) (by decide +kernel)
theorem sw_677 : (Cond.code yX8_met cX8_met 2 (some .int) : Cond) ∈ sr_ws := sr_wt 677 (by decide +kernel) (by decide +kernel)
theorem sw_678 : (Cond.methodLink RL 121 yX8_lose : Cond) ∈ sr_ws := sr_wt 678 (by decide +kernel) (by decide +kernel)
theorem sw_679 : (Cond.instanceMethod yX8_lose : Cond) ∈ sr_ws := sr_wt 679 (by decide +kernel) (by decide +kernel)
theorem sw_680 : (Cond.selects RX8 yX8_lose yX8_lose : Cond) ∈ sr_ws := sr_wt 680 (by decide +kernel) (by decide +kernel)
theorem sw_681 : (Cond.code yX8_lose cX8_lose 2 (some .int) : Cond) ∈ sr_ws := sr_wt 681 (by decide +kernel) (by decide +kernel)
theorem sw_682 : (Cond.methodLink RL 126 yX8_lay : Cond) ∈ sr_ws := sr_wt 682 (by decide +kernel) (by decide +kernel)
theorem sw_683 : (Cond.instanceMethod yX8_lay : Cond) ∈ sr_ws := sr_wt 683 (by decide +kernel) (by decide +kernel)
theorem sw_684 : (Cond.selects RX8 yX8_lay yX8_lay : Cond) ∈ sr_ws := sr_wt 684 (by decide +kernel) (by decide +kernel)
theorem sw_685 : (Cond.code yX8_lay cX8_lay 6 (some .int) : Cond) ∈ sr_ws := sr_wt 685 (by decide +kernel) (by decide +kernel)
theorem sw_686 : (Cond.methodLink RX8 68 yX8_lacks : Cond) ∈ sr_ws := sr_wt 686 (by decide +kernel) (by decide +kernel)
theorem sw_688 : (Cond.instanceMethod yX8_lacks : Cond) ∈ sr_ws := sr_wt 688 (by decide +kernel) (by decide +kernel)
theorem sw_689 : (Cond.code yX8_lacks cX8_lacks 4 (some .int) : Cond) ∈ sr_ws := sr_wt 689 (by decide +kernel) (by decide +kernel)
theorem sw_690 : (Cond.methodLink RX8 72 yX8_cut : Cond) ∈ sr_ws := sr_wt 690 (by decide +kernel) (by decide +kernel)
theorem sw_691 : (Cond.static yX8_cut : Cond) ∈ sr_ws := sr_wt 691 (by decide +kernel) (by decide +kernel)
theorem sw_692 : (Cond.code yX8_cut cX8_cut 2 (some .int) : Cond) ∈ sr_ws := sr_wt 692 (by decide +kernel) (by decide +kernel)
theorem sw_693 : (Cond.methodLink RL 130 yX8_get : Cond) ∈ sr_ws := sr_wt 693 (by decide +kernel) (by decide +kernel)
theorem sw_694 : (Cond.instanceMethod yX8_get : Cond) ∈ sr_ws := sr_wt 694 (by decide +kernel) (by decide +kernel)
theorem sw_695 : (Cond.selects RX8 yX8_get yX8_get : Cond) ∈ sr_ws := sr_wt 695 (by decide +kernel) (by decide +kernel)
theorem sw_696 : (Cond.code yX8_get cX8_get 4 (some .int) : Cond) ∈ sr_ws := sr_wt 696 (by decide +kernel) (by decide +kernel)
theorem sw_697 : (Cond.constant RX8 76 (-2147483648) : Cond) ∈ sr_ws := sr_wt 697 (by decide +kernel) (by decide +kernel)
theorem sw_698 : (Cond.methodLink RL 135 yX8_copy : Cond) ∈ sr_ws := sr_wt 698 (by decide +kernel) (by decide +kernel)
theorem sw_699 : (Cond.instanceMethod yX8_copy : Cond) ∈ sr_ws := sr_wt 699 (by decide +kernel) (by decide +kernel)
theorem sw_700 : (Cond.selects RX8 yX8_copy yX8_copy : Cond) ∈ sr_ws := sr_wt 700 (by decide +kernel) (by decide +kernel)
theorem sw_701 : (Cond.code yX8_copy cX8_copy 7 (some .int) : Cond) ∈ sr_ws := sr_wt 701 (by decide +kernel) (by decide +kernel)
theorem sw_702 : (Cond.methodLink RL 17 yX8_type : Cond) ∈ sr_ws := sr_wt 702 (by decide +kernel) (by decide +kernel)
theorem sw_703 : (Cond.instanceMethod yX8_type : Cond) ∈ sr_ws := sr_wt 703 (by decide +kernel) (by decide +kernel)
theorem sw_704 : (Cond.selects RX8 yX8_type yX8_type : Cond) ∈ sr_ws := sr_wt 704 (by decide +kernel) (by decide +kernel)
theorem sw_705 : (Cond.code yX8_type cX8_type 2 (some .int) : Cond) ∈ sr_ws := sr_wt 705 (by decide +kernel) (by decide +kernel)
theorem sw_706 : (Cond.constantLong RX8 77 (255) : Cond) ∈ sr_ws := sr_wt 706 (by decide +kernel) (by decide +kernel)
theorem sw_707 : (Cond.methodLink RL 22 yX8_wipe : Cond) ∈ sr_ws := sr_wt 707 (by decide +kernel) (by decide +kernel)
theorem sw_708 : (Cond.instanceMethod yX8_wipe : Cond) ∈ sr_ws := sr_wt 708 (by decide +kernel) (by decide +kernel)
theorem sw_709 : (Cond.selects RX8 yX8_wipe yX8_wipe : Cond) ∈ sr_ws := sr_wt 709 (by decide +kernel) (by decide +kernel)
theorem sw_710 : (Cond.code yX8_wipe cX8_wipe 2 (some .int) : Cond) ∈ sr_ws := sr_wt 710 (by decide +kernel) (by decide +kernel)
theorem sw_711 : (Cond.methodLink RL 26 yX8_undo : Cond) ∈ sr_ws := sr_wt 711 (by decide +kernel) (by decide +kernel)
theorem sw_712 : (Cond.instanceMethod yX8_undo : Cond) ∈ sr_ws := sr_wt 712 (by decide +kernel) (by decide +kernel)
theorem sw_713 : (Cond.selects RX8 yX8_undo yX8_undo : Cond) ∈ sr_ws := sr_wt 713 (by decide +kernel) (by decide +kernel)
theorem sw_714 : (Cond.code yX8_undo cX8_undo 1 (some .int) : Cond) ∈ sr_ws := sr_wt 714 (by decide +kernel) (by decide +kernel)
theorem sw_715 : (Cond.methodLink RL 30 yX8_fault : Cond) ∈ sr_ws := sr_wt 715 (by decide +kernel) (by decide +kernel)
theorem sw_716 : (Cond.instanceMethod yX8_fault : Cond) ∈ sr_ws := sr_wt 716 (by decide +kernel) (by decide +kernel)
theorem sw_717 : (Cond.selects RX8 yX8_fault yX8_fault : Cond) ∈ sr_ws := sr_wt 717 (by decide +kernel) (by decide +kernel)
theorem sw_718 : (Cond.code yX8_fault cX8_fault 1 (some .int) : Cond) ∈ sr_ws := sr_wt 718 (by decide +kernel) (by decide +kernel)
theorem sw_719 : (Cond.methodLink RX8 101 yX8_reads : Cond) ∈ sr_ws := sr_wt 719 (by decide +kernel) (by decide +kernel)
theorem sw_721 : (Cond.instanceMethod yX8_reads : Cond) ∈ sr_ws := sr_wt 721 (by decide +kernel) (by decide +kernel)
theorem sw_722 : (Cond.code yX8_reads cX8_reads 2 (some .int) : Cond) ∈ sr_ws := sr_wt 722 (by decide +kernel) (by decide +kernel)
theorem sw_723 : (Cond.methodLink RX8 94 yX8_readsPart : Cond) ∈ sr_ws := sr_wt 723 (by decide +kernel) (by decide +kernel)
theorem sw_725 : (Cond.instanceMethod yX8_readsPart : Cond) ∈ sr_ws := sr_wt 725 (by decide +kernel) (by decide +kernel)
theorem sw_726 : (Cond.code yX8_readsPart cX8_readsPart 5 (some .boolean) : Cond) ∈ sr_ws := sr_wt 726 (by decide +kernel) (by decide +kernel)
theorem sw_727 : (Cond.methodLink RX8 88 yX8_here : Cond) ∈ sr_ws := sr_wt 727 (by decide +kernel) (by decide +kernel)
theorem sw_729 : (Cond.instanceMethod yX8_here : Cond) ∈ sr_ws := sr_wt 729 (by decide +kernel) (by decide +kernel)
theorem sw_730 : (Cond.code yX8_here cX8_here 1 (some .int) : Cond) ∈ sr_ws := sr_wt 730 (by decide +kernel) (by decide +kernel)
theorem sw_731 : (Cond.constantLong RX8 92 (9) : Cond) ∈ sr_ws := sr_wt 731 (by decide +kernel) (by decide +kernel)
theorem sw_732 : (Cond.methodLink RX8 98 yX8_nobody : Cond) ∈ sr_ws := sr_wt 732 (by decide +kernel) (by decide +kernel)
theorem sw_734 : (Cond.instanceMethod yX8_nobody : Cond) ∈ sr_ws := sr_wt 734 (by decide +kernel) (by decide +kernel)
theorem sw_735 : (Cond.code yX8_nobody cX8_nobody 1 (some .int) : Cond) ∈ sr_ws := sr_wt 735 (by decide +kernel) (by decide +kernel)
theorem sw_736 : (Cond.methodLink RL 35 yX8_runner : Cond) ∈ sr_ws := sr_wt 736 (by decide +kernel) (by decide +kernel)
theorem sw_737 : (Cond.instanceMethod yX8_runner : Cond) ∈ sr_ws := sr_wt 737 (by decide +kernel) (by decide +kernel)
theorem sw_738 : (Cond.selects RX8 yX8_runner yX8_runner : Cond) ∈ sr_ws := sr_wt 738 (by decide +kernel) (by decide +kernel)
theorem sw_739 : (Cond.code yX8_runner cX8_runner 3 (some .int) : Cond) ∈ sr_ws := sr_wt 739 (by decide +kernel) (by decide +kernel)
theorem sw_740 : (Cond.methodLink RL 39 yX8_runs : Cond) ∈ sr_ws := sr_wt 740 (by decide +kernel) (by decide +kernel)
theorem sw_741 : (Cond.instanceMethod yX8_runs : Cond) ∈ sr_ws := sr_wt 741 (by decide +kernel) (by decide +kernel)
theorem sw_742 : (Cond.selects RX8 yX8_runs yX8_runs : Cond) ∈ sr_ws := sr_wt 742 (by decide +kernel) (by decide +kernel)
theorem sw_743 : (Cond.code yX8_runs cX8_runs 4 (some .int) : Cond) ∈ sr_ws := sr_wt 743 (by decide +kernel) (by decide +kernel)
theorem sw_744 : (Cond.methodLink RX8 104 yX8_isStretch : Cond) ∈ sr_ws := sr_wt 744 (by decide +kernel) (by decide +kernel)
theorem sw_745 : (Cond.static yX8_isStretch : Cond) ∈ sr_ws := sr_wt 745 (by decide +kernel) (by decide +kernel)
theorem sw_746 : (Cond.code yX8_isStretch cX8_isStretch 1 (some .boolean) : Cond) ∈ sr_ws := sr_wt 746 (by decide +kernel) (by decide +kernel)
theorem sw_747 : (Cond.constantLong RX8 107 (4) : Cond) ∈ sr_ws := sr_wt 747 (by decide +kernel) (by decide +kernel)
theorem sw_748 : (Cond.methodLink RL 43 yX8_set : Cond) ∈ sr_ws := sr_wt 748 (by decide +kernel) (by decide +kernel)
theorem sw_749 : (Cond.instanceMethod yX8_set : Cond) ∈ sr_ws := sr_wt 749 (by decide +kernel) (by decide +kernel)
theorem sw_750 : (Cond.selects RX8 yX8_set yX8_set : Cond) ∈ sr_ws := sr_wt 750 (by decide +kernel) (by decide +kernel)
theorem sw_751 : (Cond.code yX8_set cX8_set 4 (some .int) : Cond) ∈ sr_ws := sr_wt 751 (by decide +kernel) (by decide +kernel)
theorem sw_752 : (Cond.constantLong RX8 109 (6) : Cond) ∈ sr_ws := sr_wt 752 (by decide +kernel) (by decide +kernel)
theorem sw_753 : (Cond.constantLong RX8 111 (5) : Cond) ∈ sr_ws := sr_wt 753 (by decide +kernel) (by decide +kernel)
theorem sw_754 : (Cond.methodLink RX8 113 yX8_most : Cond) ∈ sr_ws := sr_wt 754 (by decide +kernel) (by decide +kernel)
theorem sw_755 : (Cond.static yX8_most : Cond) ∈ sr_ws := sr_wt 755 (by decide +kernel) (by decide +kernel)
theorem sw_756 : (Cond.code yX8_most cX8_most 1 (some .int) : Cond) ∈ sr_ws := sr_wt 756 (by decide +kernel) (by decide +kernel)
theorem sw_757 : (Cond.methodLink RL 47 yX8_mark : Cond) ∈ sr_ws := sr_wt 757 (by decide +kernel) (by decide +kernel)
theorem sw_758 : (Cond.instanceMethod yX8_mark : Cond) ∈ sr_ws := sr_wt 758 (by decide +kernel) (by decide +kernel)
theorem sw_759 : (Cond.selects RX8 yX8_mark yX8_mark : Cond) ∈ sr_ws := sr_wt 759 (by decide +kernel) (by decide +kernel)
theorem sw_760 : (Cond.code yX8_mark cX8_mark 4 (some .int) : Cond) ∈ sr_ws := sr_wt 760 (by decide +kernel) (by decide +kernel)
theorem sw_761 : (Cond.methodLink RX8 116 yX8_isChange : Cond) ∈ sr_ws := sr_wt 761 (by decide +kernel) (by decide +kernel)
theorem sw_762 : (Cond.static yX8_isChange : Cond) ∈ sr_ws := sr_wt 762 (by decide +kernel) (by decide +kernel)
theorem sw_763 : (Cond.code yX8_isChange cX8_isChange 1 (some .boolean) : Cond) ∈ sr_ws := sr_wt 763 (by decide +kernel) (by decide +kernel)
theorem sw_764 : (Cond.constantLong RX8 119 (40) : Cond) ∈ sr_ws := sr_wt 764 (by decide +kernel) (by decide +kernel)
theorem sw_765 : (Cond.methodLink RL 51 yX8_slip : Cond) ∈ sr_ws := sr_wt 765 (by decide +kernel) (by decide +kernel)
theorem sw_766 : (Cond.instanceMethod yX8_slip : Cond) ∈ sr_ws := sr_wt 766 (by decide +kernel) (by decide +kernel)
theorem sw_767 : (Cond.selects RX8 yX8_slip yX8_slip : Cond) ∈ sr_ws := sr_wt 767 (by decide +kernel) (by decide +kernel)
theorem sw_768 : (Cond.code yX8_slip cX8_slip 4 (some .int) : Cond) ∈ sr_ws := sr_wt 768 (by decide +kernel) (by decide +kernel)
theorem sw_769 : (Cond.constantLong RX8 121 (-60) : Cond) ∈ sr_ws := sr_wt 769 (by decide +kernel) (by decide +kernel)
theorem sw_770 : (Cond.constantLong RX8 123 (60) : Cond) ∈ sr_ws := sr_wt 770 (by decide +kernel) (by decide +kernel)
theorem sw_771 : (Cond.methodLink RL 55 yX8_read : Cond) ∈ sr_ws := sr_wt 771 (by decide +kernel) (by decide +kernel)
theorem sw_772 : (Cond.instanceMethod yX8_read : Cond) ∈ sr_ws := sr_wt 772 (by decide +kernel) (by decide +kernel)
theorem sw_773 : (Cond.selects RX8 yX8_read yX8_read : Cond) ∈ sr_ws := sr_wt 773 (by decide +kernel) (by decide +kernel)
theorem sw_774 : (Cond.code yX8_read cX8_read 3 (some .int) : Cond) ∈ sr_ws := sr_wt 774 (by decide +kernel) (by decide +kernel)
theorem sw_775 : (Cond.methodLink RX8 125 yX8_mark : Cond) ∈ sr_ws := sr_wt 775 (by decide +kernel) (by decide +kernel)
theorem sw_776 : (Cond.methodLink RL 60 yX8_takes : Cond) ∈ sr_ws := sr_wt 776 (by decide +kernel) (by decide +kernel)
theorem sw_777 : (Cond.instanceMethod yX8_takes : Cond) ∈ sr_ws := sr_wt 777 (by decide +kernel) (by decide +kernel)
theorem sw_778 : (Cond.selects RX8 yX8_takes yX8_takes : Cond) ∈ sr_ws := sr_wt 778 (by decide +kernel) (by decide +kernel)
theorem sw_779 : (Cond.code yX8_takes cX8_takes 4 (some .int) : Cond) ∈ sr_ws := sr_wt 779 (by decide +kernel) (by decide +kernel)
theorem sw_780 : (Cond.constantLong RX8 131 (100) : Cond) ∈ sr_ws := sr_wt 780 (by decide +kernel) (by decide +kernel)
theorem sw_781 : (Cond.methodLink RX8 133 yX8_takesOf : Cond) ∈ sr_ws := sr_wt 781 (by decide +kernel) (by decide +kernel)
theorem sw_783 : (Cond.instanceMethod yX8_takesOf : Cond) ∈ sr_ws := sr_wt 783 (by decide +kernel) (by decide +kernel)
theorem sw_784 : (Cond.code yX8_takesOf cX8_takesOf 6 (some .int) : Cond) ∈ sr_ws := sr_wt 784 (by decide +kernel) (by decide +kernel)
theorem sw_785 : (Cond.methodLink RX8 128 yX8_lesser : Cond) ∈ sr_ws := sr_wt 785 (by decide +kernel) (by decide +kernel)
theorem sw_786 : (Cond.static yX8_lesser : Cond) ∈ sr_ws := sr_wt 786 (by decide +kernel) (by decide +kernel)
theorem sw_787 : (Cond.code yX8_lesser cX8_lesser 2 (some .int) : Cond) ∈ sr_ws := sr_wt 787 (by decide +kernel) (by decide +kernel)
theorem sw_788 : (Cond.methodLink RL 64 yX8_when : Cond) ∈ sr_ws := sr_wt 788 (by decide +kernel) (by decide +kernel)
theorem sw_789 : (Cond.instanceMethod yX8_when : Cond) ∈ sr_ws := sr_wt 789 (by decide +kernel) (by decide +kernel)
theorem sw_790 : (Cond.selects RX8 yX8_when yX8_when : Cond) ∈ sr_ws := sr_wt 790 (by decide +kernel) (by decide +kernel)
theorem sw_791 : (Cond.code yX8_when cX8_when 3 (some .int) : Cond) ∈ sr_ws := sr_wt 791 (by decide +kernel) (by decide +kernel)
theorem sw_792 : (Cond.methodLink RX8 144 yX8_isTwo : Cond) ∈ sr_ws := sr_wt 792 (by decide +kernel) (by decide +kernel)
theorem sw_793 : (Cond.static yX8_isTwo : Cond) ∈ sr_ws := sr_wt 793 (by decide +kernel) (by decide +kernel)
theorem sw_794 : (Cond.code yX8_isTwo cX8_isTwo 1 (some .boolean) : Cond) ∈ sr_ws := sr_wt 794 (by decide +kernel) (by decide +kernel)
theorem sw_795 : (Cond.methodLink RX8 147 yX8_areThere : Cond) ∈ sr_ws := sr_wt 795 (by decide +kernel) (by decide +kernel)
theorem sw_797 : (Cond.instanceMethod yX8_areThere : Cond) ∈ sr_ws := sr_wt 797 (by decide +kernel) (by decide +kernel)
theorem sw_798 : (Cond.code yX8_areThere cX8_areThere 3 (some .boolean) : Cond) ∈ sr_ws := sr_wt 798 (by decide +kernel) (by decide +kernel)
theorem sw_799 : (Cond.methodLink RX8 150 yX8_goesOff : Cond) ∈ sr_ws := sr_wt 799 (by decide +kernel) (by decide +kernel)
theorem sw_801 : (Cond.instanceMethod yX8_goesOff : Cond) ∈ sr_ws := sr_wt 801 (by decide +kernel) (by decide +kernel)
theorem sw_802 : (Cond.code yX8_goesOff cX8_goesOff 4 (some .int) : Cond) ∈ sr_ws := sr_wt 802 (by decide +kernel) (by decide +kernel)
theorem sw_803 : (Cond.methodLink RX8 136 yX8_delay : Cond) ∈ sr_ws := sr_wt 803 (by decide +kernel) (by decide +kernel)
theorem sw_805 : (Cond.instanceMethod yX8_delay : Cond) ∈ sr_ws := sr_wt 805 (by decide +kernel) (by decide +kernel)
theorem sw_806 : (Cond.code yX8_delay cX8_delay 6 (some .int) : Cond) ∈ sr_ws := sr_wt 806 (by decide +kernel) (by decide +kernel)
theorem sw_807 : (Cond.methodLink RL 68 yX8_meet : Cond) ∈ sr_ws := sr_wt 807 (by decide +kernel) (by decide +kernel)
theorem sw_808 : (Cond.instanceMethod yX8_meet : Cond) ∈ sr_ws := sr_wt 808 (by decide +kernel) (by decide +kernel)
theorem sw_809 : (Cond.selects RX8 yX8_meet yX8_meet : Cond) ∈ sr_ws := sr_wt 809 (by decide +kernel) (by decide +kernel)
theorem sw_810 : (Cond.code yX8_meet cX8_meet 2 (some .int) : Cond) ∈ sr_ws := sr_wt 810 (by decide +kernel) (by decide +kernel)
theorem sw_811 : (Cond.methodLink RX8 156 yX8_meetNow : Cond) ∈ sr_ws := sr_wt 811 (by decide +kernel) (by decide +kernel)
theorem sw_813 : (Cond.instanceMethod yX8_meetNow : Cond) ∈ sr_ws := sr_wt 813 (by decide +kernel) (by decide +kernel)
theorem sw_814 : (Cond.code yX8_meetNow cX8_meetNow 2 (some .int) : Cond) ∈ sr_ws := sr_wt 814 (by decide +kernel) (by decide +kernel)
theorem sw_815 : (Cond.methodLink RX8 153 yX8_meetOf : Cond) ∈ sr_ws := sr_wt 815 (by decide +kernel) (by decide +kernel)
theorem sw_817 : (Cond.instanceMethod yX8_meetOf : Cond) ∈ sr_ws := sr_wt 817 (by decide +kernel) (by decide +kernel)
theorem sw_818 : (Cond.code yX8_meetOf cX8_meetOf 4 (some .int) : Cond) ∈ sr_ws := sr_wt 818 (by decide +kernel) (by decide +kernel)
theorem sw_819 : (Cond.methodLink RX8 140 yX8_meetBy : Cond) ∈ sr_ws := sr_wt 819 (by decide +kernel) (by decide +kernel)
theorem sw_821 : (Cond.instanceMethod yX8_meetBy : Cond) ∈ sr_ws := sr_wt 821 (by decide +kernel) (by decide +kernel)
theorem sw_822 : (Cond.code yX8_meetBy cX8_meetBy 8 (some .int) : Cond) ∈ sr_ws := sr_wt 822 (by decide +kernel) (by decide +kernel)
theorem sw_823 : (Cond.methodLink RL 72 yX8_kind : Cond) ∈ sr_ws := sr_wt 823 (by decide +kernel) (by decide +kernel)
theorem sw_824 : (Cond.instanceMethod yX8_kind : Cond) ∈ sr_ws := sr_wt 824 (by decide +kernel) (by decide +kernel)
theorem sw_825 : (Cond.selects RX8 yX8_kind yX8_kind : Cond) ∈ sr_ws := sr_wt 825 (by decide +kernel) (by decide +kernel)
theorem sw_826 : (Cond.code yX8_kind cX8_kind 2 (some .int) : Cond) ∈ sr_ws := sr_wt 826 (by decide +kernel) (by decide +kernel)
theorem sw_827 : (Cond.methodLink RX8 159 yX8_kindNow : Cond) ∈ sr_ws := sr_wt 827 (by decide +kernel) (by decide +kernel)
theorem sw_829 : (Cond.instanceMethod yX8_kindNow : Cond) ∈ sr_ws := sr_wt 829 (by decide +kernel) (by decide +kernel)
theorem sw_830 : (Cond.code yX8_kindNow cX8_kindNow 3 (some .int) : Cond) ∈ sr_ws := sr_wt 830 (by decide +kernel) (by decide +kernel)
theorem sw_831 : (Cond.methodLink RL 76 yX8_time : Cond) ∈ sr_ws := sr_wt 831 (by decide +kernel) (by decide +kernel)
theorem sw_832 : (Cond.instanceMethod yX8_time : Cond) ∈ sr_ws := sr_wt 832 (by decide +kernel) (by decide +kernel)
theorem sw_833 : (Cond.selects RX8 yX8_time yX8_time : Cond) ∈ sr_ws := sr_wt 833 (by decide +kernel) (by decide +kernel)
theorem sw_834 : (Cond.code yX8_time cX8_time 1 (some .int) : Cond) ∈ sr_ws := sr_wt 834 (by decide +kernel) (by decide +kernel)
theorem sw_835 : (Cond.methodLink RX8 162 yX8_timeOf : Cond) ∈ sr_ws := sr_wt 835 (by decide +kernel) (by decide +kernel)
theorem sw_837 : (Cond.instanceMethod yX8_timeOf : Cond) ∈ sr_ws := sr_wt 837 (by decide +kernel) (by decide +kernel)
theorem sw_838 : (Cond.code yX8_timeOf cX8_timeOf 4 (some .int) : Cond) ∈ sr_ws := sr_wt 838 (by decide +kernel) (by decide +kernel)
theorem sw_839 : (Cond.methodLink RL 80 yX8_carries : Cond) ∈ sr_ws := sr_wt 839 (by decide +kernel) (by decide +kernel)
theorem sw_840 : (Cond.instanceMethod yX8_carries : Cond) ∈ sr_ws := sr_wt 840 (by decide +kernel) (by decide +kernel)
theorem sw_841 : (Cond.selects RX8 yX8_carries yX8_carries : Cond) ∈ sr_ws := sr_wt 841 (by decide +kernel) (by decide +kernel)
theorem sw_842 : (Cond.code yX8_carries cX8_carries 2 (some .int) : Cond) ∈ sr_ws := sr_wt 842 (by decide +kernel) (by decide +kernel)
theorem sw_843 : (Cond.methodLink RX8 168 yX8_carriesNow : Cond) ∈ sr_ws := sr_wt 843 (by decide +kernel) (by decide +kernel)
theorem sw_845 : (Cond.instanceMethod yX8_carriesNow : Cond) ∈ sr_ws := sr_wt 845 (by decide +kernel) (by decide +kernel)
theorem sw_846 : (Cond.code yX8_carriesNow cX8_carriesNow 2 (some .int) : Cond) ∈ sr_ws := sr_wt 846 (by decide +kernel) (by decide +kernel)
theorem sw_847 : (Cond.methodLink RX8 165 yX8_carriesOf : Cond) ∈ sr_ws := sr_wt 847 (by decide +kernel) (by decide +kernel)
theorem sw_849 : (Cond.instanceMethod yX8_carriesOf : Cond) ∈ sr_ws := sr_wt 849 (by decide +kernel) (by decide +kernel)
theorem sw_850 : (Cond.code yX8_carriesOf cX8_carriesOf 4 (some .int) : Cond) ∈ sr_ws := sr_wt 850 (by decide +kernel) (by decide +kernel)
theorem sw_851 : (Cond.methodLink RL 84 yX8_chance : Cond) ∈ sr_ws := sr_wt 851 (by decide +kernel) (by decide +kernel)
theorem sw_852 : (Cond.instanceMethod yX8_chance : Cond) ∈ sr_ws := sr_wt 852 (by decide +kernel) (by decide +kernel)
theorem sw_853 : (Cond.selects RX8 yX8_chance yX8_chance : Cond) ∈ sr_ws := sr_wt 853 (by decide +kernel) (by decide +kernel)
theorem sw_854 : (Cond.code yX8_chance cX8_chance 2 (some .int) : Cond) ∈ sr_ws := sr_wt 854 (by decide +kernel) (by decide +kernel)
theorem sw_855 : (Cond.methodLink RX8 177 yX8_chanceNow : Cond) ∈ sr_ws := sr_wt 855 (by decide +kernel) (by decide +kernel)
theorem sw_857 : (Cond.instanceMethod yX8_chanceNow : Cond) ∈ sr_ws := sr_wt 857 (by decide +kernel) (by decide +kernel)
theorem sw_858 : (Cond.code yX8_chanceNow cX8_chanceNow 2 (some .int) : Cond) ∈ sr_ws := sr_wt 858 (by decide +kernel) (by decide +kernel)
theorem sw_859 : (Cond.methodLink RX8 174 yX8_chanceBy : Cond) ∈ sr_ws := sr_wt 859 (by decide +kernel) (by decide +kernel)
theorem sw_861 : (Cond.instanceMethod yX8_chanceBy : Cond) ∈ sr_ws := sr_wt 861 (by decide +kernel) (by decide +kernel)
theorem sw_862 : (Cond.code yX8_chanceBy cX8_chanceBy 5 (some .int) : Cond) ∈ sr_ws := sr_wt 862 (by decide +kernel) (by decide +kernel)
theorem sw_863 : (Cond.methodLink RX8 171 yX8_oddsOf : Cond) ∈ sr_ws := sr_wt 863 (by decide +kernel) (by decide +kernel)
theorem sw_864 : (Cond.static yX8_oddsOf : Cond) ∈ sr_ws := sr_wt 864 (by decide +kernel) (by decide +kernel)
theorem sw_865 : (Cond.code yX8_oddsOf cX8_oddsOf 1 (some .int) : Cond) ∈ sr_ws := sr_wt 865 (by decide +kernel) (by decide +kernel)
theorem sw_866 : (Cond.methodLink RL 89 yX8_all : Cond) ∈ sr_ws := sr_wt 866 (by decide +kernel) (by decide +kernel)
theorem sw_867 : (Cond.instanceMethod yX8_all : Cond) ∈ sr_ws := sr_wt 867 (by decide +kernel) (by decide +kernel)
theorem sw_868 : (Cond.selects RX8 yX8_all yX8_all : Cond) ∈ sr_ws := sr_wt 868 (by decide +kernel) (by decide +kernel)
theorem sw_869 : (Cond.code yX8_all cX8_all 2 (some .long) : Cond) ∈ sr_ws := sr_wt 869 (by decide +kernel) (by decide +kernel)
theorem sw_870 : (Cond.methodLink RX8 190 yX8_allNow : Cond) ∈ sr_ws := sr_wt 870 (by decide +kernel) (by decide +kernel)
theorem sw_872 : (Cond.instanceMethod yX8_allNow : Cond) ∈ sr_ws := sr_wt 872 (by decide +kernel) (by decide +kernel)
theorem sw_873 : (Cond.code yX8_allNow cX8_allNow 5 (some .long) : Cond) ∈ sr_ws := sr_wt 873 (by decide +kernel) (by decide +kernel)
theorem sw_874 : (Cond.methodLink RX8 180 yX8_no : Cond) ∈ sr_ws := sr_wt 874 (by decide +kernel) (by decide +kernel)
theorem sw_875 : (Cond.static yX8_no : Cond) ∈ sr_ws := sr_wt 875 (by decide +kernel) (by decide +kernel)
theorem sw_876 : (Cond.code yX8_no cX8_no 1 (some .long) : Cond) ∈ sr_ws := sr_wt 876 (by decide +kernel) (by decide +kernel)
theorem sw_877 : (Cond.constantLong RX8 46 (-9223372036854775808) : Cond) ∈ sr_ws := sr_wt 877 (by decide +kernel) (by decide +kernel)
theorem sw_878 : (Cond.constantLong RX8 184 (4096) : Cond) ∈ sr_ws := sr_wt 878 (by decide +kernel) (by decide +kernel)
theorem sw_879 : (Cond.methodLink RX8 186 yX8_part : Cond) ∈ sr_ws := sr_wt 879 (by decide +kernel) (by decide +kernel)
theorem sw_880 : (Cond.static yX8_part : Cond) ∈ sr_ws := sr_wt 880 (by decide +kernel) (by decide +kernel)
theorem sw_881 : (Cond.code yX8_part cX8_part 11 (some .long) : Cond) ∈ sr_ws := sr_wt 881 (by decide +kernel) (by decide +kernel)
theorem sw_882 : (Cond.methodLink RL 93 yX8_safe : Cond) ∈ sr_ws := sr_wt 882 (by decide +kernel) (by decide +kernel)
theorem sw_883 : (Cond.instanceMethod yX8_safe : Cond) ∈ sr_ws := sr_wt 883 (by decide +kernel) (by decide +kernel)
theorem sw_884 : (Cond.selects RX8 yX8_safe yX8_safe : Cond) ∈ sr_ws := sr_wt 884 (by decide +kernel) (by decide +kernel)
theorem sw_885 : (Cond.code yX8_safe cX8_safe 3 (some .int) : Cond) ∈ sr_ws := sr_wt 885 (by decide +kernel) (by decide +kernel)
theorem sw_886 : (Cond.constantLong RX8 193 (16) : Cond) ∈ sr_ws := sr_wt 886 (by decide +kernel) (by decide +kernel)
theorem sw_887 : (Cond.methodLink RX8 195 yX8_safeNow : Cond) ∈ sr_ws := sr_wt 887 (by decide +kernel) (by decide +kernel)
theorem sw_889 : (Cond.instanceMethod yX8_safeNow : Cond) ∈ sr_ws := sr_wt 889 (by decide +kernel) (by decide +kernel)
theorem sw_890 : (Cond.code yX8_safeNow cX8_safeNow 4 (some .int) : Cond) ∈ sr_ws := sr_wt 890 (by decide +kernel) (by decide +kernel)
theorem sw_891 : (Cond.methodLink RL 97 yX8_best : Cond) ∈ sr_ws := sr_wt 891 (by decide +kernel) (by decide +kernel)
theorem sw_892 : (Cond.instanceMethod yX8_best : Cond) ∈ sr_ws := sr_wt 892 (by decide +kernel) (by decide +kernel)
theorem sw_893 : (Cond.selects RX8 yX8_best yX8_best : Cond) ∈ sr_ws := sr_wt 893 (by decide +kernel) (by decide +kernel)
theorem sw_894 : (Cond.code yX8_best cX8_best 2 (some .int) : Cond) ∈ sr_ws := sr_wt 894 (by decide +kernel) (by decide +kernel)
theorem sw_895 : (Cond.methodLink RX8 204 yX8_bestNow : Cond) ∈ sr_ws := sr_wt 895 (by decide +kernel) (by decide +kernel)
theorem sw_897 : (Cond.instanceMethod yX8_bestNow : Cond) ∈ sr_ws := sr_wt 897 (by decide +kernel) (by decide +kernel)
theorem sw_898 : (Cond.code yX8_bestNow cX8_bestNow 2 (some .int) : Cond) ∈ sr_ws := sr_wt 898 (by decide +kernel) (by decide +kernel)
theorem sw_899 : (Cond.methodLink RX8 201 yX8_bestBy : Cond) ∈ sr_ws := sr_wt 899 (by decide +kernel) (by decide +kernel)
theorem sw_901 : (Cond.instanceMethod yX8_bestBy : Cond) ∈ sr_ws := sr_wt 901 (by decide +kernel) (by decide +kernel)
theorem sw_902 : (Cond.code yX8_bestBy cX8_bestBy 10 (some .int) : Cond) ∈ sr_ws := sr_wt 902 (by decide +kernel) (by decide +kernel)
theorem sw_903 : (Cond.methodLink RX8 198 yX8_lost : Cond) ∈ sr_ws := sr_wt 903 (by decide +kernel) (by decide +kernel)
theorem sw_905 : (Cond.instanceMethod yX8_lost : Cond) ∈ sr_ws := sr_wt 905 (by decide +kernel) (by decide +kernel)
theorem sw_906 : (Cond.code yX8_lost cX8_lost 2 (some .int) : Cond) ∈ sr_ws := sr_wt 906 (by decide +kernel) (by decide +kernel)
theorem sw_907 : (Cond.methodLink RL 101 yX8_order : Cond) ∈ sr_ws := sr_wt 907 (by decide +kernel) (by decide +kernel)
theorem sw_908 : (Cond.instanceMethod yX8_order : Cond) ∈ sr_ws := sr_wt 908 (by decide +kernel) (by decide +kernel)
theorem sw_909 : (Cond.selects RX8 yX8_order yX8_order : Cond) ∈ sr_ws := sr_wt 909 (by decide +kernel) (by decide +kernel)
theorem sw_910 : (Cond.code yX8_order cX8_order 3 (some .int) : Cond) ∈ sr_ws := sr_wt 910 (by decide +kernel) (by decide +kernel)
theorem sw_911 : (Cond.constantLong RX8 213 (-1) : Cond) ∈ sr_ws := sr_wt 911 (by decide +kernel) (by decide +kernel)
theorem sw_912 : (Cond.constantLong RX8 215 (7) : Cond) ∈ sr_ws := sr_wt 912 (by decide +kernel) (by decide +kernel)
theorem sw_913 : (Cond.methodLink RX8 217 yX8_orderOf : Cond) ∈ sr_ws := sr_wt 913 (by decide +kernel) (by decide +kernel)
theorem sw_915 : (Cond.instanceMethod yX8_orderOf : Cond) ∈ sr_ws := sr_wt 915 (by decide +kernel) (by decide +kernel)
theorem sw_916 : (Cond.code yX8_orderOf cX8_orderOf 9 (some .int) : Cond) ∈ sr_ws := sr_wt 916 (by decide +kernel) (by decide +kernel)
theorem sw_917 : (Cond.methodLink RX8 210 yX8_looks : Cond) ∈ sr_ws := sr_wt 917 (by decide +kernel) (by decide +kernel)
theorem sw_919 : (Cond.instanceMethod yX8_looks : Cond) ∈ sr_ws := sr_wt 919 (by decide +kernel) (by decide +kernel)
theorem sw_920 : (Cond.code yX8_looks cX8_looks 3 none : Cond) ∈ sr_ws := sr_wt 920 (by decide +kernel) (by decide +kernel)
theorem sw_921 : (Cond.methodLink RX8 207 yX8_hands : Cond) ∈ sr_ws := sr_wt 921 (by decide +kernel) (by decide +kernel)
theorem sw_923 : (Cond.instanceMethod yX8_hands : Cond) ∈ sr_ws := sr_wt 923 (by decide +kernel) (by decide +kernel)
theorem sw_924 : (Cond.code yX8_hands cX8_hands 5 (some .boolean) : Cond) ∈ sr_ws := sr_wt 924 (by decide +kernel) (by decide +kernel)
theorem sw_925 : (Cond.methodLink RL 105 yX8_blame : Cond) ∈ sr_ws := sr_wt 925 (by decide +kernel) (by decide +kernel)
theorem sw_926 : (Cond.instanceMethod yX8_blame : Cond) ∈ sr_ws := sr_wt 926 (by decide +kernel) (by decide +kernel)
theorem sw_927 : (Cond.selects RX8 yX8_blame yX8_blame : Cond) ∈ sr_ws := sr_wt 927 (by decide +kernel) (by decide +kernel)
theorem sw_928 : (Cond.code yX8_blame cX8_blame 3 (some .int) : Cond) ∈ sr_ws := sr_wt 928 (by decide +kernel) (by decide +kernel)
theorem sw_929 : (Cond.methodLink RX8 220 yX8_blameNow : Cond) ∈ sr_ws := sr_wt 929 (by decide +kernel) (by decide +kernel)
theorem sw_931 : (Cond.instanceMethod yX8_blameNow : Cond) ∈ sr_ws := sr_wt 931 (by decide +kernel) (by decide +kernel)
theorem sw_932 : (Cond.code yX8_blameNow cX8_blameNow 5 (some .int) : Cond) ∈ sr_ws := sr_wt 932 (by decide +kernel) (by decide +kernel)
theorem sw_933 : (Cond.methodLink RL 109 yX8_lot : Cond) ∈ sr_ws := sr_wt 933 (by decide +kernel) (by decide +kernel)
theorem sw_934 : (Cond.instanceMethod yX8_lot : Cond) ∈ sr_ws := sr_wt 934 (by decide +kernel) (by decide +kernel)
theorem sw_935 : (Cond.selects RX8 yX8_lot yX8_lot : Cond) ∈ sr_ws := sr_wt 935 (by decide +kernel) (by decide +kernel)
theorem sw_936 : (Cond.code yX8_lot cX8_lot 2 (some .int) : Cond) ∈ sr_ws := sr_wt 936 (by decide +kernel) (by decide +kernel)
theorem sw_937 : (Cond.methodLink RX8 230 yX8_raceOn : Cond) ∈ sr_ws := sr_wt 937 (by decide +kernel) (by decide +kernel)
theorem sw_939 : (Cond.instanceMethod yX8_raceOn : Cond) ∈ sr_ws := sr_wt 939 (by decide +kernel) (by decide +kernel)
theorem sw_940 : (Cond.code yX8_raceOn cX8_raceOn 6 (some .int) : Cond) ∈ sr_ws := sr_wt 940 (by decide +kernel) (by decide +kernel)
theorem sw_941 : (Cond.methodLink RX8 227 yX8_slipByLot : Cond) ∈ sr_ws := sr_wt 941 (by decide +kernel) (by decide +kernel)
theorem sw_943 : (Cond.instanceMethod yX8_slipByLot : Cond) ∈ sr_ws := sr_wt 943 (by decide +kernel) (by decide +kernel)
theorem sw_944 : (Cond.code yX8_slipByLot cX8_slipByLot 3 (some .int) : Cond) ∈ sr_ws := sr_wt 944 (by decide +kernel) (by decide +kernel)
theorem sw_945 : (Cond.constant RX8 223 (1103515245) : Cond) ∈ sr_ws := sr_wt 945 (by decide +kernel) (by decide +kernel)
theorem sw_946 : (Cond.methodLink RL 113 yX8_races : Cond) ∈ sr_ws := sr_wt 946 (by decide +kernel) (by decide +kernel)
theorem sw_947 : (Cond.instanceMethod yX8_races : Cond) ∈ sr_ws := sr_wt 947 (by decide +kernel) (by decide +kernel)
theorem sw_948 : (Cond.selects RX8 yX8_races yX8_races : Cond) ∈ sr_ws := sr_wt 948 (by decide +kernel) (by decide +kernel)
theorem sw_949 : (Cond.code yX8_races cX8_races 4 (some .int) : Cond) ∈ sr_ws := sr_wt 949 (by decide +kernel) (by decide +kernel)
theorem sw_950 : (Cond.constantLong RX8 233 (99999) : Cond) ∈ sr_ws := sr_wt 950 (by decide +kernel) (by decide +kernel)
theorem sw_951 : (Cond.methodLink RX8 235 yX8_racesNow : Cond) ∈ sr_ws := sr_wt 951 (by decide +kernel) (by decide +kernel)
theorem sw_953 : (Cond.instanceMethod yX8_racesNow : Cond) ∈ sr_ws := sr_wt 953 (by decide +kernel) (by decide +kernel)
theorem sw_954 : (Cond.code yX8_racesNow cX8_racesNow 6 (some .int) : Cond) ∈ sr_ws := sr_wt 954 (by decide +kernel) (by decide +kernel)
theorem sw_955 : (Cond.methodLink RL 139 yX8_write : Cond) ∈ sr_ws := sr_wt 955 (by decide +kernel) (by decide +kernel)
theorem sw_956 : (Cond.instanceMethod yX8_write : Cond) ∈ sr_ws := sr_wt 956 (by decide +kernel) (by decide +kernel)
theorem sw_957 : (Cond.selects RX8 yX8_write yX8_write : Cond) ∈ sr_ws := sr_wt 957 (by decide +kernel) (by decide +kernel)
theorem sw_958 : (Cond.code yX8_write cX8_write 4 (some .int) : Cond) ∈ sr_ws := sr_wt 958 (by decide +kernel) (by decide +kernel)
theorem sw_959 : (Cond.methodLink RL 143 yX8_count : Cond) ∈ sr_ws := sr_wt 959 (by decide +kernel) (by decide +kernel)
theorem sw_960 : (Cond.instanceMethod yX8_count : Cond) ∈ sr_ws := sr_wt 960 (by decide +kernel) (by decide +kernel)
theorem sw_961 : (Cond.selects RX8 yX8_count yX8_count : Cond) ∈ sr_ws := sr_wt 961 (by decide +kernel) (by decide +kernel)
theorem sw_962 : (Cond.code yX8_count cX8_count 2 (some .int) : Cond) ∈ sr_ws := sr_wt 962 (by decide +kernel) (by decide +kernel)
theorem sw_963 : (Cond.methodLink RX8 238 yX8_unlike : Cond) ∈ sr_ws := sr_wt 963 (by decide +kernel) (by decide +kernel)
theorem sw_965 : (Cond.instanceMethod yX8_unlike : Cond) ∈ sr_ws := sr_wt 965 (by decide +kernel) (by decide +kernel)
theorem sw_966 : (Cond.code yX8_unlike cX8_unlike 4 (some .int) : Cond) ∈ sr_ws := sr_wt 966 (by decide +kernel) (by decide +kernel)
theorem sw_967 : (Cond.methodLink RL 148 yX8_digest : Cond) ∈ sr_ws := sr_wt 967 (by decide +kernel) (by decide +kernel)
theorem sw_968 : (Cond.instanceMethod yX8_digest : Cond) ∈ sr_ws := sr_wt 968 (by decide +kernel) (by decide +kernel)
theorem sw_969 : (Cond.selects RX8 yX8_digest yX8_digest : Cond) ∈ sr_ws := sr_wt 969 (by decide +kernel) (by decide +kernel)
theorem sw_970 : (Cond.code yX8_digest cX8_digest 5 (some .long) : Cond) ∈ sr_ws := sr_wt 970 (by decide +kernel) (by decide +kernel)
theorem sw_971 : (Cond.constantLong RX8 241 (17) : Cond) ∈ sr_ws := sr_wt 971 (by decide +kernel) (by decide +kernel)
theorem sw_972 : (Cond.constantLong RX8 243 (31) : Cond) ∈ sr_ws := sr_wt 972 (by decide +kernel) (by decide +kernel)
theorem sw_973 : (Cond.methodLink RX8 245 yX8_count : Cond) ∈ sr_ws := sr_wt 973 (by decide +kernel) (by decide +kernel)
theorem sw_974 : (Cond.methodLink RX8 248 yX8_when : Cond) ∈ sr_ws := sr_wt 974 (by decide +kernel) (by decide +kernel)
theorem sw_975 : (Cond.methodLink RX8 251 yX8_blame : Cond) ∈ sr_ws := sr_wt 975 (by decide +kernel) (by decide +kernel)
theorem sw_976 : (Cond.methodLink RX8 254 yX8_time : Cond) ∈ sr_ws := sr_wt 976 (by decide +kernel) (by decide +kernel)
theorem sw_977 : (Cond.methodLink RX8 257 yX8_lot : Cond) ∈ sr_ws := sr_wt 977 (by decide +kernel) (by decide +kernel)
theorem sw_978 : (Cond.methodLink RX8 260 yX8_races : Cond) ∈ sr_ws := sr_wt 978 (by decide +kernel) (by decide +kernel)
theorem sp_0 : (Cond.selects RX4 yX4_scan yX4_scan : Cond) ∈ sr_ws := sr_wp 0 (by decide +kernel) (by decide +kernel)
theorem sp_1 : (Cond.selects RX4 yX4_canGoOn yX4_canGoOn : Cond) ∈ sr_ws := sr_wp 1 (by decide +kernel) (by decide +kernel)
theorem sp_2 : (Cond.selects RX4 yX4_twoFigures yX4_twoFigures : Cond) ∈ sr_ws := sr_wp 2 (by decide +kernel) (by decide +kernel)
theorem sp_3 : (Cond.selects RX4 yX4_readFigures yX4_readFigures : Cond) ∈ sr_ws := sr_wp 3 (by decide +kernel) (by decide +kernel)
theorem sp_4 : (Cond.selects RX7 yX7_isNobody yX7_isNobody : Cond) ∈ sr_ws := sr_wp 4 (by decide +kernel) (by decide +kernel)
theorem sp_5 : (Cond.selects RX6 yX6_headroom yX6_headroom : Cond) ∈ sr_ws := sr_wp 5 (by decide +kernel) (by decide +kernel)
theorem sp_6 : (Cond.selects RX1 yX1_weigh yX1_weigh : Cond) ∈ sr_ws := sr_wp 6 (by decide +kernel) (by decide +kernel)
theorem sp_7 : (Cond.selects RX1 yX1_slipAt yX1_slipAt : Cond) ∈ sr_ws := sr_wp 7 (by decide +kernel) (by decide +kernel)
theorem sp_8 : (Cond.selects RX1 yX1_sharesAt yX1_sharesAt : Cond) ∈ sr_ws := sr_wp 8 (by decide +kernel) (by decide +kernel)
theorem sp_9 : (Cond.selects RX2 yX2_weighPairs yX2_weighPairs : Cond) ∈ sr_ws := sr_wp 9 (by decide +kernel) (by decide +kernel)
theorem sp_10 : (Cond.selects RX2 yX2_canChangeHands yX2_canChangeHands : Cond) ∈ sr_ws := sr_wp 10 (by decide +kernel) (by decide +kernel)
theorem sp_11 : (Cond.selects RX2 yX2_consider yX2_consider : Cond) ∈ sr_ws := sr_wp 11 (by decide +kernel) (by decide +kernel)
theorem sp_12 : (Cond.selects RX0 yX0_lotOfSixteen yX0_lotOfSixteen : Cond) ∈ sr_ws := sr_wp 12 (by decide +kernel) (by decide +kernel)
theorem sp_13 : (Cond.selects RX8 yX8_met yX8_met : Cond) ∈ sr_ws := sr_wp 13 (by decide +kernel) (by decide +kernel)
theorem sp_14 : (Cond.selects RX8 yX8_lacks yX8_lacks : Cond) ∈ sr_ws := sr_wp 14 (by decide +kernel) (by decide +kernel)
theorem sp_15 : (Cond.selects RX8 yX8_reads yX8_reads : Cond) ∈ sr_ws := sr_wp 15 (by decide +kernel) (by decide +kernel)
theorem sp_16 : (Cond.selects RX8 yX8_readsPart yX8_readsPart : Cond) ∈ sr_ws := sr_wp 16 (by decide +kernel) (by decide +kernel)
theorem sp_17 : (Cond.selects RX8 yX8_here yX8_here : Cond) ∈ sr_ws := sr_wp 17 (by decide +kernel) (by decide +kernel)
theorem sp_18 : (Cond.selects RX8 yX8_nobody yX8_nobody : Cond) ∈ sr_ws := sr_wp 18 (by decide +kernel) (by decide +kernel)
theorem sp_19 : (Cond.selects RX8 yX8_takesOf yX8_takesOf : Cond) ∈ sr_ws := sr_wp 19 (by decide +kernel) (by decide +kernel)
theorem sp_20 : (Cond.selects RX8 yX8_areThere yX8_areThere : Cond) ∈ sr_ws := sr_wp 20 (by decide +kernel) (by decide +kernel)
theorem sp_21 : (Cond.selects RX8 yX8_goesOff yX8_goesOff : Cond) ∈ sr_ws := sr_wp 21 (by decide +kernel) (by decide +kernel)
theorem sp_22 : (Cond.selects RX8 yX8_delay yX8_delay : Cond) ∈ sr_ws := sr_wp 22 (by decide +kernel) (by decide +kernel)
theorem sp_23 : (Cond.selects RX8 yX8_meetNow yX8_meetNow : Cond) ∈ sr_ws := sr_wp 23 (by decide +kernel) (by decide +kernel)
theorem sp_24 : (Cond.selects RX8 yX8_meetOf yX8_meetOf : Cond) ∈ sr_ws := sr_wp 24 (by decide +kernel) (by decide +kernel)
theorem sp_25 : (Cond.selects RX8 yX8_meetBy yX8_meetBy : Cond) ∈ sr_ws := sr_wp 25 (by decide +kernel) (by decide +kernel)
theorem sp_26 : (Cond.selects RX8 yX8_kindNow yX8_kindNow : Cond) ∈ sr_ws := sr_wp 26 (by decide +kernel) (by decide +kernel)
theorem sp_27 : (Cond.selects RX8 yX8_timeOf yX8_timeOf : Cond) ∈ sr_ws := sr_wp 27 (by decide +kernel) (by decide +kernel)
theorem sp_28 : (Cond.selects RX8 yX8_carriesNow yX8_carriesNow : Cond) ∈ sr_ws := sr_wp 28 (by decide +kernel) (by decide +kernel)
theorem sp_29 : (Cond.selects RX8 yX8_carriesOf yX8_carriesOf : Cond) ∈ sr_ws := sr_wp 29 (by decide +kernel) (by decide +kernel)
theorem sp_30 : (Cond.selects RX8 yX8_chanceNow yX8_chanceNow : Cond) ∈ sr_ws := sr_wp 30 (by decide +kernel) (by decide +kernel)
theorem sp_31 : (Cond.selects RX8 yX8_chanceBy yX8_chanceBy : Cond) ∈ sr_ws := sr_wp 31 (by decide +kernel) (by decide +kernel)
theorem sp_32 : (Cond.selects RX8 yX8_allNow yX8_allNow : Cond) ∈ sr_ws := sr_wp 32 (by decide +kernel) (by decide +kernel)
theorem sp_33 : (Cond.selects RX8 yX8_safeNow yX8_safeNow : Cond) ∈ sr_ws := sr_wp 33 (by decide +kernel) (by decide +kernel)
theorem sp_34 : (Cond.selects RX8 yX8_bestNow yX8_bestNow : Cond) ∈ sr_ws := sr_wp 34 (by decide +kernel) (by decide +kernel)
theorem sp_35 : (Cond.selects RX8 yX8_bestBy yX8_bestBy : Cond) ∈ sr_ws := sr_wp 35 (by decide +kernel) (by decide +kernel)
theorem sp_36 : (Cond.selects RX8 yX8_lost yX8_lost : Cond) ∈ sr_ws := sr_wp 36 (by decide +kernel) (by decide +kernel)
theorem sp_37 : (Cond.selects RX8 yX8_orderOf yX8_orderOf : Cond) ∈ sr_ws := sr_wp 37 (by decide +kernel) (by decide +kernel)
theorem sp_38 : (Cond.selects RX8 yX8_looks yX8_looks : Cond) ∈ sr_ws := sr_wp 38 (by decide +kernel) (by decide +kernel)
theorem sp_39 : (Cond.selects RX8 yX8_hands yX8_hands : Cond) ∈ sr_ws := sr_wp 39 (by decide +kernel) (by decide +kernel)
theorem sp_40 : (Cond.selects RX8 yX8_blameNow yX8_blameNow : Cond) ∈ sr_ws := sr_wp 40 (by decide +kernel) (by decide +kernel)
theorem sp_41 : (Cond.selects RX8 yX8_raceOn yX8_raceOn : Cond) ∈ sr_ws := sr_wp 41 (by decide +kernel) (by decide +kernel)
theorem sp_42 : (Cond.selects RX8 yX8_slipByLot yX8_slipByLot : Cond) ∈ sr_ws := sr_wp 42 (by decide +kernel) (by decide +kernel)
theorem sp_43 : (Cond.selects RX8 yX8_racesNow yX8_racesNow : Cond) ∈ sr_ws := sr_wp 43 (by decide +kernel) (by decide +kernel)
theorem sp_44 : (Cond.selects RX8 yX8_unlike yX8_unlike : Cond) ∈ sr_ws := sr_wp 44 (by decide +kernel) (by decide +kernel)
theorem sr_inX0 : ∀ w ∈ u_ws RX0 TX0 2, w ∈ sr_ws := List.forall_mem_cons.mpr ⟨sw_159, List.forall_mem_cons.mpr ⟨sw_161, fun _ h => absurd h List.not_mem_nil⟩⟩
theorem sr_inX1 : ∀ w ∈ u_ws RX1 TX1 3, w ∈ sr_ws := List.forall_mem_cons.mpr ⟨sw_117, List.forall_mem_cons.mpr ⟨sw_119, List.forall_mem_cons.mpr ⟨sw_121, fun _ h => absurd h List.not_mem_nil⟩⟩⟩
theorem sr_inX2 : ∀ w ∈ u_ws RX2 TX2 5, w ∈ sr_ws := List.forall_mem_cons.mpr ⟨sw_138, List.forall_mem_cons.mpr ⟨sw_140, List.forall_mem_cons.mpr ⟨sw_142, List.forall_mem_cons.mpr ⟨sw_144, List.forall_mem_cons.mpr ⟨sw_146, fun _ h => absurd h List.not_mem_nil⟩⟩⟩⟩⟩
theorem sr_inX3 : ∀ w ∈ u_ws RX3 TX3 5, w ∈ sr_ws := List.forall_mem_cons.mpr ⟨sw_97, List.forall_mem_cons.mpr ⟨sw_99, List.forall_mem_cons.mpr ⟨sw_101, List.forall_mem_cons.mpr ⟨sw_103, List.forall_mem_cons.mpr ⟨sw_105, fun _ h => absurd h List.not_mem_nil⟩⟩⟩⟩⟩
theorem sr_inX4 : ∀ w ∈ u_ws RX4 TX4 8, w ∈ sr_ws := List.forall_mem_cons.mpr ⟨sw_45, List.forall_mem_cons.mpr ⟨sw_47, List.forall_mem_cons.mpr ⟨sw_49, List.forall_mem_cons.mpr ⟨sw_51, List.forall_mem_cons.mpr ⟨sw_53, List.forall_mem_cons.mpr ⟨sw_55, List.forall_mem_cons.mpr ⟨sw_57, List.forall_mem_cons.mpr ⟨sw_59, fun _ h => absurd h List.not_mem_nil⟩⟩⟩⟩⟩⟩⟩⟩
theorem sr_inX5 : ∀ w ∈ u_ws RX5 TX5 4, w ∈ sr_ws := List.forall_mem_cons.mpr ⟨sw_179, List.forall_mem_cons.mpr ⟨sw_181, List.forall_mem_cons.mpr ⟨sw_183, List.forall_mem_cons.mpr ⟨sw_185, fun _ h => absurd h List.not_mem_nil⟩⟩⟩⟩
theorem sr_inX6 : ∀ w ∈ u_ws RX6 TX6 3, w ∈ sr_ws := List.forall_mem_cons.mpr ⟨sw_74, List.forall_mem_cons.mpr ⟨sw_76, List.forall_mem_cons.mpr ⟨sw_78, fun _ h => absurd h List.not_mem_nil⟩⟩⟩
theorem sr_inX7 : ∀ w ∈ u_ws RX7 TX7 7, w ∈ sr_ws := List.forall_mem_cons.mpr ⟨sw_195, List.forall_mem_cons.mpr ⟨sw_197, List.forall_mem_cons.mpr ⟨sw_199, List.forall_mem_cons.mpr ⟨sw_201, List.forall_mem_cons.mpr ⟨sw_203, List.forall_mem_cons.mpr ⟨sw_205, List.forall_mem_cons.mpr ⟨sw_207, fun _ h => absurd h List.not_mem_nil⟩⟩⟩⟩⟩⟩⟩
theorem sr_inX8 : ∀ w ∈ u_ws RX8 TX8 17, w ∈ sr_ws := List.forall_mem_cons.mpr ⟨sw_627, List.forall_mem_cons.mpr ⟨sw_629, List.forall_mem_cons.mpr ⟨sw_631, List.forall_mem_cons.mpr ⟨sw_633, List.forall_mem_cons.mpr ⟨sw_635, List.forall_mem_cons.mpr ⟨sw_637, List.forall_mem_cons.mpr ⟨sw_639, List.forall_mem_cons.mpr ⟨sw_641, List.forall_mem_cons.mpr ⟨sw_643, List.forall_mem_cons.mpr ⟨sw_645, List.forall_mem_cons.mpr ⟨sw_647, List.forall_mem_cons.mpr ⟨sw_649, List.forall_mem_cons.mpr ⟨sw_651, List.forall_mem_cons.mpr ⟨sw_653, List.forall_mem_cons.mpr ⟨sw_655, List.forall_mem_cons.mpr ⟨sw_657, List.forall_mem_cons.mpr ⟨sw_659, fun _ h => absurd h List.not_mem_nil⟩⟩⟩⟩⟩⟩⟩⟩⟩⟩⟩⟩⟩⟩⟩⟩⟩
end
section
/-! THE FRAME OF THESE PROOFS: a side (class or reference) is ONE world, a list of cells written from its memory (rows of Int32); a contract tells the answer and the memory behind it -/
abbrev sr_M : Type := Nat → Nat → Int32
theorem sr_good {w : Cond} (h : w ∈ sr_ws) : goodWord w = true := (List.mem_filter.mp h).2
theorem sr_gi {c0 : Cond} (hc : c0 ∈ sr_ws) : GoodIn sr_ws (c0 :: sr_ws) := fun w h => by
  have h1 : w ∈ sr_ws := (List.mem_cons.mp h).elim (fun e => by rw [e]; exact hc) id
  exact ⟨h1, good_of_word (sr_good h1)⟩
theorem sr_tbl : ∀ w ∈ sr_ws, w ∈ lw_tbl := fun _ h => (List.mem_filter.mp h).1
def sr_ok (y : MethodName) (b : ByteArray) (n : Nat) (ret : Option FieldType) (na : Nat) : Prop := Cond.code y b n ret ∈ sr_ws ∧ Cond.initialized y.cls ∈ sr_ws ∧ (y.cls ≠ "java/lang/invoke/MethodHandle" ∧ y.cls ≠ "java/lang/invoke/VarHandle" ∧ (parseMethodDescriptor y.desc).map (fun d => d.parameters.length) = some na)
def sr_okV (y : MethodName) : Prop := Cond.instanceMethod y ∈ sr_ws ∧ Cond.selects y.cls y y ∈ sr_ws
abbrev sr_rm (fr lo : Nat) : Room := { frames := fr, cells := 0, slots := 0, locals := lo }
/-- what else holds at a call (static tables), and stays so while nothing outside A changes -/
def sr_Zok (A : Nat → Prop) (Z : State → Heap → Prop) : Prop := (∀ (u U : State) (H : Heap), u.vm = U.vm → Z u H → Z U H) ∧ (∀ (u U : State) (H : Heap), u.WarmedH U.vm → Z u H → Z U H) ∧ ∀ (U : State) (H H1 : Heap), (∀ q : Nat, q < H.size → ¬ A q → H1[q]? = H[q]?) → Z U H → Z U H1
theorem sr_Zok_T (A : Nat → Prop) : sr_Zok A (fun _ _ => True) := ⟨fun _ _ _ _ _ => trivial, fun _ _ _ _ _ => trivial, fun _ _ _ _ _ => trivial⟩
abbrev sr_Pc (D : va_G) (tys : List (ClassId × FieldType)) (Z : State → Heap → Prop) (w : va_W) (As : List Value) : Array Value → State → Prop := va_Pc As (fun U => va_P D vwCl w U.heap ∧ va_K D vwCl tys U ∧ Z U U.heap)
theorem sr_blind {A : Nat → Prop} {D : va_G} {tys : List (ClassId × FieldType)} {Z : State → Heap → Prop} (hZ : sr_Zok A Z) {w : va_W} {As : List Value} : FrameBlind (sr_Pc D tys Z w As) := fun a U g mk q => by
  obtain ⟨q0, qP, qK, qZ⟩ := q
  exact ⟨q0, qP, va_K.moved (u := U) (U := U.calling g mk a) (Vm.Alike.refl U.vm) qK, hZ.1 U (U.calling g mk a) _ rfl qZ⟩
/-- a contract that writes nothing -/
def sr_P (l : Launch) (D : va_G) (tys : List (ClassId × FieldType)) (Z : State → Heap → Prop) (w : va_W) (y : MethodName) (b : ByteArray) (n : Nat) (ret : Option FieldType) (fr lo : Nat) (As : List Value) (ov : Option Value) : Prop :=
  Met l y (Cond.code y b n ret :: sr_ws) (sr_rm fr lo) (sr_Pc D tys Z w As) (fun _ st o t => o = .returned ov ∧ t.heap = st.heap) 0 0 (fun _ => False)
/-- a contract that writes in A: the memory u behind it, with P u; the answer ov u -/
def sr_G (l : Launch) (D : va_G) (tys : List (ClassId × FieldType)) (Z : State → Heap → Prop) (A : Nat → Prop) (w : va_W) (y : MethodName) (b : ByteArray) (n : Nat) (ret : Option FieldType) (fr lo : Nat) (As : List Value) {S : Type} (P : S → Prop) (w2 : S → va_W) (ov : S → Option Value) : Prop :=
  Met l y (Cond.code y b n ret :: sr_ws) (sr_rm fr lo) (sr_Pc D tys Z w As) (fun _ st o t => (∃ u : S, o = .returned (ov u) ∧ P u ∧ va_P D vwCl (w2 u) t.heap) ∧ va_F A st t) 0 0 A
theorem sr_ofW {l : Launch} {y : MethodName} {ws ws' : List Cond} {rm : Room} {Pc : Array Value → State → Prop} {Qc : Array Value → State → Outcome → State → Prop} {mc ms : Nat} {free : Addr → Prop} {cc : ByteArray} {maxL : Nat} {ret : Option FieldType}
    (hy : plainFor y = true) (hw : ws = Cond.code y cc maxL ret :: ws')
    (body : ∀ p e s m args below meth c s₁, BodyLoose p l y (headSpec ws rm) cc maxL ret e s m args below meth c s₁ → c.maxLocals = maxL → Pc args s →
      W p l e (headSpec ws rm).room s m args below meth c s.heap [] 0 0 (MQ below Qc args s mc ms free) (entryFrame m args maxL)) : Met l y ws rm Pc Qc mc ms free := by
  refine MetFree.of_bodySF (code := cc) (maxLocals := maxL) (ret := ret) hy ?_ ?_
  · intro args s m h hn
    obtain ⟨meth, c, h1, h2, h3, h4, h5, h6, -, -⟩ := Cond.code_spec hn (atoms_spec (ws := ws) h _ (by rw [hw]; exact List.mem_cons_self))
    exact ⟨meth, c, h1, h2, h3, h4, h5, h6⟩
  · intro p e s m args below meth c s₁ B hml hP _
    have hh0 : s₁.heap = s.heap := by rw [B.state]; rfl
    obtain ⟨t, a1, o, b1, b2, b3⟩ := body p e s m args below meth c s₁ B hml hP s₁ hh0 (Stand.of_body B)
    exact ⟨t, o, a1, b1, b2, ⟨b3.1, b3.2⟩⟩
theorem sr_Pof {l : Launch} {D : va_G} {tys : List (ClassId × FieldType)} {Z : State → Heap → Prop} {w : va_W} {y : MethodName} {b : ByteArray} {n : Nat} {ret : Option FieldType} {fr lo : Nat} {As : List Value} {ov : Option Value} (hy : plainFor y = true) (hle : (lg_sl As).length ≤ n)
    (body : ∀ (p : Program) (e : Env) (s : State) (m : MethodId) (args : Array Value) (below : List Frame) (meth : Method) (c : Code) (ls : Array Slot), CallFix p m c b n s args sr_ws y.cls → meth.sig.returnType = ret → meth.locks = false → va_P D vwCl w s.heap → va_K D vwCl tys s → Z s s.heap → lv_has ls n (lv_args 0 As) →
      W p l e (sr_rm fr lo) s m args below meth c s.heap [] 0 0 (MQ below (fun _ st o t => o = .returned ov ∧ t.heap = st.heap) args s 0 0 (fun _ => False)) (F0 m 0 ls [])) : sr_P l D tys Z w y b n ret fr lo As ov := by
  refine sr_ofW (cc := b) (maxL := n) (ret := ret) hy rfl ?_
  intro p e s m args below meth c s₁ B hml hv
  obtain ⟨rfl, hP, hK, hZ⟩ := hv
  have hts := atoms_spec (ws := Cond.code y b n ret :: sr_ws) B.pre
  have hl := lv_entry As (n := n) hle
  rw [lg_entry_eq]
  exact body p e s m _ below meth c _ ⟨B.exec, B.bytes, hml, findClass_of_methodNamed B.named, fun w h => hts w (List.mem_cons_of_mem _ h)⟩ B.returns B.notSynchronized hP hK hZ hl
theorem sr_Gof {l : Launch} {D : va_G} {tys : List (ClassId × FieldType)} {Z : State → Heap → Prop} {A : Nat → Prop} {w : va_W} {y : MethodName} {b : ByteArray} {n : Nat} {ret : Option FieldType} {fr lo : Nat} {As : List Value} {S : Type} {P : S → Prop} {w2 : S → va_W} {ov : S → Option Value} (hy : plainFor y = true) (hle : (lg_sl As).length ≤ n)
    (body : ∀ (p : Program) (e : Env) (s : State) (m : MethodId) (args : Array Value) (below : List Frame) (meth : Method) (c : Code) (ls : Array Slot), CallFix p m c b n s args sr_ws y.cls → meth.sig.returnType = ret → meth.locks = false → va_P D vwCl w s.heap → va_K D vwCl tys s → Z s s.heap → lv_has ls n (lv_args 0 As) →
      W p l e (sr_rm fr lo) s m args below meth c s.heap [] 0 0 (MQ below (fun _ st o t => (∃ u : S, o = .returned (ov u) ∧ P u ∧ va_P D vwCl (w2 u) t.heap) ∧ va_F A st t) args s 0 0 A) (F0 m 0 ls [])) : sr_G l D tys Z A w y b n ret fr lo As P w2 ov := by
  refine sr_ofW (cc := b) (maxL := n) (ret := ret) hy rfl ?_
  intro p e s m args below meth c s₁ B hml hv
  obtain ⟨rfl, hP, hK, hZ⟩ := hv
  have hts := atoms_spec (ws := Cond.code y b n ret :: sr_ws) B.pre
  have hl := lv_entry As (n := n) hle
  rw [lg_entry_eq]
  exact body p e s m _ below meth c _ ⟨B.exec, B.bytes, hml, findClass_of_methodNamed B.named, fun w h => hts w (List.mem_cons_of_mem _ h)⟩ B.returns B.notSynchronized hP hK hZ hl
section SRW
variable {p : Program} {l : Launch} {e : Env} {R : Room} {s : State} {m : MethodId} {args : Array Value} {below : List Frame} {meth : Method} {c : Code} {H : Heap} {locs : List Loc} {cells slots : Nat} {Q : State → Prop}
variable {cc : ByteArray} {pc nL : Nat} {ls : Array Slot} {rest st0 : List Value} {D : va_G} {A : Nat → Prop} {tys : List (ClassId × FieldType)} {Z : State → Heap → Prop} {w : va_W} {own : String}
-- the ends
theorem sr_Pi (C0 : CallFix p m c cc nL s args sr_ws own) (hr : meth.sig.returnType = some .int) (hlocks : meth.locks = false) {v f : Int32} (hv : v = f) (hdg : decode cc pc = .ok (.ireturn, 1)) : W p l e R s m args below meth c s.heap [] 0 0 (MQ below (fun _ st o t => o = .returned (some (.int f)) ∧ t.heap = st.heap) args s 0 0 (fun _ => False)) (F0 m pc ls [.int v]) := by
  subst hv
  exact W.iret C0.1 C0.2.1 hr (fun t ht hW => ⟨rfl, ht⟩) (fun q h => by cases h) hdg hlocks
theorem sr_Pz (C0 : CallFix p m c cc nL s args sr_ws own) (hr : meth.sig.returnType = some .boolean) (hlocks : meth.locks = false) {v f : Int32} (hv : v = f) (hn : narrow .boolean (.int v) = .int v) (hdg : decode cc pc = .ok (.ireturn, 1)) : W p l e R s m args below meth c s.heap [] 0 0 (MQ below (fun _ st o t => o = .returned (some (.int f)) ∧ t.heap = st.heap) args s 0 0 (fun _ => False)) (F0 m pc ls [.int v]) := by
  subst hv
  exact W.zret C0.1 C0.2.1 hr hn (fun t ht hW => ⟨rfl, ht⟩) (fun q h => by cases h) hdg hlocks
theorem sr_Pl (C0 : CallFix p m c cc nL s args sr_ws own) (hr : meth.sig.returnType = some .long) (hlocks : meth.locks = false) {v f : Int64} (hv : v = f) (hdg : decode cc pc = .ok (.lreturn, 1)) : W p l e R s m args below meth c s.heap [] 0 0 (MQ below (fun _ st o t => o = .returned (some (.long f)) ∧ t.heap = st.heap) args s 0 0 (fun _ => False)) (F0 m pc ls [.long v]) := by
  subst hv
  exact W.lret C0.1 C0.2.1 hr (fun t ht hW => ⟨rfl, ht⟩) (fun q h => by cases h) hdg hlocks
theorem sr_Gi {S : Type} {P : S → Prop} {w2 : S → va_W} {f : S → Int32} (C0 : CallFix p m c cc nL s args sr_ws own) (hr : meth.sig.returnType = some .int) (hlocks : meth.locks = false) (hP : va_P D vwCl w H) (hS : va_S A s.heap H locs) (u : S) {v : Int32} (hv : v = f u) (hu : P u) (hw : w = w2 u) (hdg : decode cc pc = .ok (.ireturn, 1)) : W p l e R s m args below meth c H locs 0 0 (MQ below (fun _ st o t => (∃ u : S, o = .returned (some (.int (f u))) ∧ P u ∧ va_P D vwCl (w2 u) t.heap) ∧ va_F A st t) args s 0 0 A) (F0 m pc ls [.int v]) := by
  subst hv
  subst hw
  exact W.iret C0.1 C0.2.1 hr (fun t ht hW => ⟨⟨u, rfl, hu, by rw [ht]; exact hP⟩, hS.F ht⟩) hS.2.2 hdg hlocks
theorem sr_Gz {S : Type} {P : S → Prop} {w2 : S → va_W} {f : S → Int32} (C0 : CallFix p m c cc nL s args sr_ws own) (hr : meth.sig.returnType = some .boolean) (hlocks : meth.locks = false) (hP : va_P D vwCl w H) (hS : va_S A s.heap H locs) (u : S) {v : Int32} (hv : v = f u) (hn : narrow .boolean (.int v) = .int v) (hu : P u) (hw : w = w2 u) (hdg : decode cc pc = .ok (.ireturn, 1)) : W p l e R s m args below meth c H locs 0 0 (MQ below (fun _ st o t => (∃ u : S, o = .returned (some (.int (f u))) ∧ P u ∧ va_P D vwCl (w2 u) t.heap) ∧ va_F A st t) args s 0 0 A) (F0 m pc ls [.int v]) := by
  subst hv
  subst hw
  exact W.zret C0.1 C0.2.1 hr hn (fun t ht hW => ⟨⟨u, rfl, hu, by rw [ht]; exact hP⟩, hS.F ht⟩) hS.2.2 hdg hlocks
theorem sr_Gl {S : Type} {P : S → Prop} {w2 : S → va_W} {f : S → Int64} (C0 : CallFix p m c cc nL s args sr_ws own) (hr : meth.sig.returnType = some .long) (hlocks : meth.locks = false) (hP : va_P D vwCl w H) (hS : va_S A s.heap H locs) (u : S) {v : Int64} (hv : v = f u) (hu : P u) (hw : w = w2 u) (hdg : decode cc pc = .ok (.lreturn, 1)) : W p l e R s m args below meth c H locs 0 0 (MQ below (fun _ st o t => (∃ u : S, o = .returned (some (.long (f u))) ∧ P u ∧ va_P D vwCl (w2 u) t.heap) ∧ va_F A st t) args s 0 0 A) (F0 m pc ls [.long v]) := by
  subst hv
  subst hw
  exact W.lret C0.1 C0.2.1 hr (fun t ht hW => ⟨⟨u, rfl, hu, by rw [ht]; exact hP⟩, hS.F ht⟩) hS.2.2 hdg hlocks
theorem sr_Gv {S : Type} {P : S → Prop} {w2 : S → va_W} (C0 : CallFix p m c cc nL s args sr_ws own) (hr : meth.sig.returnType = none) (hlocks : meth.locks = false) (hP : va_P D vwCl w H) (hS : va_S A s.heap H locs) (u : S) (hu : P u) (hw : w = w2 u) (hdg : decode cc pc = .ok (.return_, 1)) : W p l e R s m args below meth c H locs 0 0 (MQ below (fun _ st o t => (∃ u : S, o = .returned none ∧ P u ∧ va_P D vwCl (w2 u) t.heap) ∧ va_F A st t) args s 0 0 A) (F0 m pc ls []) := by
  subst hw
  exact W.vret C0.1 C0.2.1 hr (fun t ht hW => ⟨⟨u, rfl, hu, by rw [ht]; exact hP⟩, hS.F ht⟩) hS.2.2 hdg hlocks
-- the calls: how one runs
variable {y : MethodName} {b : ByteArray} {n na fr lo index : Nat} {ret : Option FieldType} {As : List Value} {Qc : Array Value → State → Outcome → State → Prop} {free : Addr → Prop}
theorem sr_cb (C0 : CallFix p m c cc nL s args sr_ws own) (hk : sr_ok y b n ret na) (hl : Cond.methodLink own index y ∈ sr_ws) (hfr : fr + 1 ≤ R.frames) (hlo : 8 + (n + 11) + lo ≤ R.locals) : CallB R s args own index y b n ret (Cond.code y b n ret :: sr_ws) (sr_rm fr lo) 0 0 na :=
  callB_of na C0.2.2.2.2 (sr_gi hk.1) rfl rfl rfl (C0.2.2.2.2 _ hk.2.1) (C0.2.2.2.2 _ hl) hk.2.2 ⟨hfr, hlo⟩
theorem sr_rV (C0 : CallFix p m c cc nL s args sr_ws own) (hK : va_K D vwCl tys s) (hP : va_P D vwCl w H) (hZ : sr_Zok A Z) (hZs : Z s H) {q : Addr} (hM : Met l y (Cond.code y b n ret :: sr_ws) (sr_rm fr lo) (sr_Pc D tys Z w (.ref q :: As)) Qc 0 0 free) (hk : sr_ok y b n ret na) (hkV : sr_okV y) (hl : Cond.methodLink own index y ∈ sr_ws) {ci q0 N : Nat} {T : u_T} {fs : List Value} (hc : vwCl[ci]? = some (y.cls, T, N)) (he : w[q0]? = some (q, .inr (ci, fs)))
    (hst : st0 = As.reverse ++ .ref q :: rest) (hn : As.length = na) (hsz : ls.size = nL) (hfr : fr + 1 ≤ R.frames) (hlo : 8 + (n + 11) + lo ≤ R.locals) (hW : (rest.map fun v => v.category).sum ≤ 8) (hdg : decode cc pc = .ok (.invokevirtual index, 3)) (hcs : cells ≤ R.cells ∧ slots ≤ R.slots) :
    va_Run p l e R s m args below meth c H locs cells slots 0 0 (F0 m pc ls st0) rest (Qc (Value.ref q :: As).toArray) free :=
  va_runV C0 hM ⟨sr_cb C0 hk hl hfr hlo, C0.2.2.2.2 _ hkV.1, C0.2.2.2.2 _ hkV.2⟩ ⟨sr_blind hZ, va_recv hK hP hc he, fun U hU hW => ⟨rfl, by rw [hU]; exact hP, va_K.moved hW.alike hK, by rw [hU]; exact hZ.2.1 _ _ _ hW hZs⟩⟩ rfl hn hsz hst (lv_room hW) hdg hcs
theorem sr_rS (C0 : CallFix p m c cc nL s args sr_ws own) (hK : va_K D vwCl tys s) (hP : va_P D vwCl w H) (hZ : sr_Zok A Z) (hZs : Z s H) (hM : Met l y (Cond.code y b n ret :: sr_ws) (sr_rm fr lo) (sr_Pc D tys Z w As) Qc 0 0 free) (hk : sr_ok y b n ret na) (hkS : Cond.static y ∈ sr_ws) (hl : Cond.methodLink own index y ∈ sr_ws)
    (hst : st0 = As.reverse ++ rest) (hn : As.length = na) (hsz : ls.size = nL) (hfr : fr + 1 ≤ R.frames) (hlo : 8 + (n + 11) + lo ≤ R.locals) (hW : (rest.map fun v => v.category).sum ≤ 8) (hdg : decode cc pc = .ok (.invokestatic index, 3)) (hcs : cells ≤ R.cells ∧ slots ≤ R.slots) :
    va_Run p l e R s m args below meth c H locs cells slots 0 0 (F0 m pc ls st0) rest (Qc As.toArray) free :=
  va_runS C0 hM ⟨sr_cb C0 hk hl hfr hlo, C0.2.2.2.2 _ hkS⟩ ⟨sr_blind hZ, fun U hU hW => ⟨rfl, by rw [hU]; exact hP, va_K.moved hW.alike hK, by rw [hU]; exact hZ.2.1 _ _ _ hW hZs⟩⟩ rfl hn hsz hst (lv_room hW) hdg hcs
theorem sr_rSN {host : String} (C0 : CallFix p m c cc nL s args sr_ws own) (hK : va_K D vwCl tys s) (hP : va_P D vwCl w H) (hZ : sr_Zok A Z) (hZs : Z s H) (hM : Met l y (Cond.code y b n ret :: sr_ws) (sr_rm fr lo) (sr_Pc D tys Z w As) Qc 0 0 free) (hk : sr_ok y b n ret na) (hkS : Cond.static y ∈ sr_ws) (hl : va_Nw (.methodLinkNest own index y host) s)
    (hst : st0 = As.reverse ++ rest) (hn : As.length = na) (hsz : ls.size = nL) (hfr : fr + 1 ≤ R.frames) (hlo : 8 + (n + 11) + lo ≤ R.locals) (hW : (rest.map fun v => v.category).sum ≤ 8) (hdg : decode cc pc = .ok (.invokestatic index, 3)) (hcs : cells ≤ R.cells ∧ slots ≤ R.slots) :
    va_Run p l e R s m args below meth c H locs cells slots 0 0 (F0 m pc ls st0) rest (Qc As.toArray) free :=
  va_runSN C0 hM ⟨va_cnB na C0.2.2.2.2 (sr_gi hk.1) rfl rfl rfl hl (C0.2.2.2.2 _ hk.2.1) hk.2.2 ⟨hfr, hlo⟩, C0.2.2.2.2 _ hkS, trivial⟩ ⟨sr_blind hZ, fun U hU hW => ⟨rfl, by rw [hU]; exact hP, va_K.moved hW.alike hK, by rw [hU]; exact hZ.2.1 _ _ _ hW hZs⟩⟩ rfl hn hsz hst (lv_room hW) hdg hcs
-- the calls: what stands behind one
theorem sr_goP {ov : Option Value} (hr : va_Run p l e R s m args below meth c H locs cells slots 0 0 (F0 m pc ls st0) rest (fun st o t => o = .returned ov ∧ t.heap = st.heap) (fun _ => False)) (kk : W p l e R s m args below meth c H locs cells slots Q (F0 m (pc + 3) ls (ov.toList ++ rest))) : W p l e R s m args below meth c H locs cells slots Q (F0 m pc ls st0) := by
  intro T hT X
  obtain ⟨v, st₀, t, T', L, h0, X', hL, e1, e2, ⟨hv, hz⟩, st⟩ := hr T hT X
  cases hv
  have hL' : L = [] := List.eq_nil_iff_forall_not_mem.mpr (fun q hq => hL q hq)
  subst hL'
  rw [List.append_nil] at X'
  obtain ⟨t2, a1, b1⟩ := kk T' (by rw [e1, hz, h0]) X'
  exact ⟨t2, st t2 a1, b1⟩
theorem sr_goG {S : Type} {P : S → Prop} {w2 : S → va_W} {ov : S → Option Value} {H0 : Heap} {A0 : Nat → Prop} (hr : va_Run p l e R s m args below meth c H locs cells slots 0 0 (F0 m pc ls st0) rest (fun st o t => (∃ u : S, o = .returned (ov u) ∧ P u ∧ va_P D vwCl (w2 u) t.heap) ∧ va_F A st t) A) (hS : va_S A0 H0 H locs) (hA : ∀ q, A q → A0 q)
    (kk : ∀ (u : S) (H1 : Heap) (locs1 : List Loc), P u → va_P D vwCl (w2 u) H1 → va_S A0 H0 H1 locs1 → H.size ≤ H1.size → (∀ q : Nat, q < H.size → ¬ A q → H1[q]? = H[q]?) → W p l e R s m args below meth c H1 locs1 cells slots Q (F0 m (pc + 3) ls ((ov u).toList ++ rest))) : W p l e R s m args below meth c H locs cells slots Q (F0 m pc ls st0) := by
  intro T hT X
  obtain ⟨v, st₀, t, T', L, h0, X', hL, e1, e2, ⟨⟨u, hv, hp, hb⟩, hz, hk⟩, st⟩ := hr T hT X
  cases hv
  rw [h0] at hz hk
  obtain ⟨t2, a1, b1⟩ := kk u T'.heap (locs ++ L) hp (by rw [e1]; exact hb)
    ⟨Nat.le_trans hS.1 (by rw [e1]; exact hz), fun q h1 h2 => by rw [e1, hk q (Nat.lt_of_lt_of_le h1 hS.1) (fun z => h2 (hA q z))]; exact hS.2.1 q h1 h2, fun q hq => by
      rcases List.mem_append.mp hq with h | h
      · exact hS.2.2 q h
      · exact hA _ (hL q h)⟩ (by rw [e1]; exact hz) (fun q h1 h2 => by rw [e1]; exact hk q h1 h2) T' rfl X'
  exact ⟨t2, st t2 a1, b1⟩
/-- reading an int of an int row -/
theorem sr_ald {cI : ClassId} (C0 : CallFix p m c cc nL s args sr_ws own) (hK : va_K D vwCl tys s) (ht : tys[0]? = some (cI, .int)) (hP : va_P D vwCl w H) {q0 nn a : Nat} {f : Nat → Int32} (ha : w[q0]? = some (a, .inl (cI, nn, .inl f))) {i : Int32} {k : Nat} (hk : i.toNatClampNeg = k) (hin : vp_in i nn) (hdg : decode cc pc = .ok (.iaload, 1))
    (kk : W p l e R s m args below meth c H locs cells slots Q (F0 m (pc + 1) ls (.int (f k) :: rest))) : W p l e R s m args below meth c H locs cells slots Q (F0 m pc ls (.int i :: .ref a :: rest)) := by
  subst hk
  exact va_iald C0.1 C0.2.1 hK hP q0 0 ha ht hin hdg kk
/-- writing one -/
theorem sr_ast {cI : ClassId} {H0 : Heap} (C0 : CallFix p m c cc nL s args sr_ws own) (hK : va_K D vwCl tys s) (ht : tys[0]? = some (cI, .int)) (hP : va_P D vwCl w H) (hD : va_D A w) (hS : va_S A H0 H locs) {q0 nn a : Nat} {f : Nat → Int32} (ha : w[q0]? = some (a, .inl (cI, nn, .inl f))) {i x : Int32} {k : Nat} (hk : i.toNatClampNeg = k) (hin : vp_in i nn) {w' : va_W} (hw : w.set q0 (a, .inl (cI, nn, .inl (upd f k x))) = w') (hdg : decode cc pc = .ok (.iastore, 1))
    (kk : ∀ (H1 : Heap) (locs1 : List Loc), va_P D vwCl w' H1 → va_S A H0 H1 locs1 → W p l e R s m args below meth c H1 locs1 cells slots Q (F0 m (pc + 1) ls rest)) : W p l e R s m args below meth c H locs cells slots Q (F0 m pc ls (.int x :: .int i :: .ref a :: rest)) := by
  subst hk
  subst hw
  exact va_iast C0.1 C0.2.1 hK hP hD hS q0 0 ha ht hin hdg (fun H1 l1 h1 _ h3 => kk H1 l1 h1 h3)
end SRW
end
section
/-! THE TWO WORLDS: kp: what both sides keep alike (0 text, 1 who runs, 2 rules, 3 marks, 4 slips, 5 length and finding); cx: what one side keeps for itself; sg: its scratch -/
def sr_o (a : Nat → Nat) (b n : Nat) : Nat → Option Nat := fun i => if i < n then some (a (b + i)) else none
def sr_WC (cI cR : ClassId) (a : Nat → Nat) (kp cx sg : sr_M) : va_W := [(a 0, .inr (7, [.ref (a 1), .ref (a 2), .ref (a 3), .ref (a 4), .ref (a 5), .ref (a 6), .ref (a 7)])), (a 1, .inr (4, [.ref (a 8), .ref (a 9), .ref (a 10), .ref (a 11), .ref (a 12), .int (kp 5 0), .int (cx 4 0), .int (cx 4 1)])), (a 2, .inr (6, [.ref (a 1), .ref (a 13), .ref (a 14)])), (a 3, .inr (3, [.ref (a 1), .ref (a 2), .ref (a 15), .ref (a 16), .ref (a 17)])), (a 4, .inr (1, [.ref (a 2), .ref (a 3), .ref (a 18)])), (a 5, .inr (2, [.ref (a 1), .ref (a 2), .ref (a 19), .ref (a 23), .ref (a 27)])), (a 6, .inr (0, [.ref (a 28), .int (sg 9 0)])), (a 7, .inr (5, [.ref (a 29), .ref (a 34), .ref (a 35), .int (kp 5 1)])), (a 8, .inl (cI, 40, .inl (kp 0))), (a 9, .inl (cI, 5, .inl (cx 0))), (a 10, .inl (cI, 5, .inl (cx 1))), (a 11, .inl (cI, 5, .inl (cx 2))), (a 12, .inl (cI, 5, .inl (cx 3))), (a 13, .inl (cI, 7, .inl (kp 2))), (a 14, .inl (cI, 4, .inl (cx 5))), (a 15, .inl (cI, 4, .inl (kp 1))), (a 16, .inl (cI, 3, .inl (kp 3))), (a 17, .inl (cI, 3, .inl (kp 4))), (a 18, .inl (cI, 5, .inl (sg 0))), (a 19, .inl (cR, 3, .inr (.inr (.inr (.inr (sr_o a 20 3)))))), (a 20, .inl (cI, 25, .inl (sg 1))), (a 21, .inl (cI, 25, .inl (sg 2))), (a 22, .inl (cI, 25, .inl (sg 3))), (a 23, .inl (cR, 3, .inr (.inr (.inr (.inr (sr_o a 24 3)))))), (a 24, .inl (cI, 25, .inl (sg 4))), (a 25, .inl (cI, 25, .inl (sg 5))), (a 26, .inl (cI, 25, .inl (sg 6))), (a 27, .inl (cI, 8, .inl (sg 7))), (a 28, .inl (cI, 3, .inl (sg 8))), (a 29, .inl (cR, 4, .inr (.inr (.inr (.inr (sr_o a 30 4)))))), (a 30, .inl (cI, 60, .inl (cx 6))), (a 31, .inl (cI, 60, .inl (cx 7))), (a 32, .inl (cI, 60, .inl (cx 8))), (a 33, .inl (cI, 60, .inl (cx 9))), (a 34, .inl (cI, 4, .inl (cx 10))), (a 35, .inl (cI, 4, .inl (cx 11)))]
def sr_AC (a : Nat → Nat) : Nat → Prop := fun q => ∃ k, k < 36 ∧ q = a k
theorem sr_wC0 {cI cR : ClassId} {a : Nat → Nat} {kp cx sg : sr_M} : (sr_WC cI cR a kp cx sg)[0]? = some (a 0, .inr (7, [.ref (a 1), .ref (a 2), .ref (a 3), .ref (a 4), .ref (a 5), .ref (a 6), .ref (a 7)])) := rfl
theorem sr_wC1 {cI cR : ClassId} {a : Nat → Nat} {kp cx sg : sr_M} : (sr_WC cI cR a kp cx sg)[1]? = some (a 1, .inr (4, [.ref (a 8), .ref (a 9), .ref (a 10), .ref (a 11), .ref (a 12), .int (kp 5 0), .int (cx 4 0), .int (cx 4 1)])) := rfl
theorem sr_wC2 {cI cR : ClassId} {a : Nat → Nat} {kp cx sg : sr_M} : (sr_WC cI cR a kp cx sg)[2]? = some (a 2, .inr (6, [.ref (a 1), .ref (a 13), .ref (a 14)])) := rfl
theorem sr_wC3 {cI cR : ClassId} {a : Nat → Nat} {kp cx sg : sr_M} : (sr_WC cI cR a kp cx sg)[3]? = some (a 3, .inr (3, [.ref (a 1), .ref (a 2), .ref (a 15), .ref (a 16), .ref (a 17)])) := rfl
theorem sr_wC4 {cI cR : ClassId} {a : Nat → Nat} {kp cx sg : sr_M} : (sr_WC cI cR a kp cx sg)[4]? = some (a 4, .inr (1, [.ref (a 2), .ref (a 3), .ref (a 18)])) := rfl
theorem sr_wC5 {cI cR : ClassId} {a : Nat → Nat} {kp cx sg : sr_M} : (sr_WC cI cR a kp cx sg)[5]? = some (a 5, .inr (2, [.ref (a 1), .ref (a 2), .ref (a 19), .ref (a 23), .ref (a 27)])) := rfl
theorem sr_wC6 {cI cR : ClassId} {a : Nat → Nat} {kp cx sg : sr_M} : (sr_WC cI cR a kp cx sg)[6]? = some (a 6, .inr (0, [.ref (a 28), .int (sg 9 0)])) := rfl
theorem sr_wC7 {cI cR : ClassId} {a : Nat → Nat} {kp cx sg : sr_M} : (sr_WC cI cR a kp cx sg)[7]? = some (a 7, .inr (5, [.ref (a 29), .ref (a 34), .ref (a 35), .int (kp 5 1)])) := rfl
theorem sr_wC8 {cI cR : ClassId} {a : Nat → Nat} {kp cx sg : sr_M} : (sr_WC cI cR a kp cx sg)[8]? = some (a 8, .inl (cI, 40, .inl (kp 0))) := rfl
theorem sr_wC9 {cI cR : ClassId} {a : Nat → Nat} {kp cx sg : sr_M} : (sr_WC cI cR a kp cx sg)[9]? = some (a 9, .inl (cI, 5, .inl (cx 0))) := rfl
theorem sr_wC10 {cI cR : ClassId} {a : Nat → Nat} {kp cx sg : sr_M} : (sr_WC cI cR a kp cx sg)[10]? = some (a 10, .inl (cI, 5, .inl (cx 1))) := rfl
theorem sr_wC11 {cI cR : ClassId} {a : Nat → Nat} {kp cx sg : sr_M} : (sr_WC cI cR a kp cx sg)[11]? = some (a 11, .inl (cI, 5, .inl (cx 2))) := rfl
theorem sr_wC12 {cI cR : ClassId} {a : Nat → Nat} {kp cx sg : sr_M} : (sr_WC cI cR a kp cx sg)[12]? = some (a 12, .inl (cI, 5, .inl (cx 3))) := rfl
theorem sr_wC13 {cI cR : ClassId} {a : Nat → Nat} {kp cx sg : sr_M} : (sr_WC cI cR a kp cx sg)[13]? = some (a 13, .inl (cI, 7, .inl (kp 2))) := rfl
theorem sr_wC14 {cI cR : ClassId} {a : Nat → Nat} {kp cx sg : sr_M} : (sr_WC cI cR a kp cx sg)[14]? = some (a 14, .inl (cI, 4, .inl (cx 5))) := rfl
theorem sr_wC15 {cI cR : ClassId} {a : Nat → Nat} {kp cx sg : sr_M} : (sr_WC cI cR a kp cx sg)[15]? = some (a 15, .inl (cI, 4, .inl (kp 1))) := rfl
theorem sr_wC16 {cI cR : ClassId} {a : Nat → Nat} {kp cx sg : sr_M} : (sr_WC cI cR a kp cx sg)[16]? = some (a 16, .inl (cI, 3, .inl (kp 3))) := rfl
theorem sr_wC17 {cI cR : ClassId} {a : Nat → Nat} {kp cx sg : sr_M} : (sr_WC cI cR a kp cx sg)[17]? = some (a 17, .inl (cI, 3, .inl (kp 4))) := rfl
theorem sr_wC18 {cI cR : ClassId} {a : Nat → Nat} {kp cx sg : sr_M} : (sr_WC cI cR a kp cx sg)[18]? = some (a 18, .inl (cI, 5, .inl (sg 0))) := rfl
theorem sr_wC19 {cI cR : ClassId} {a : Nat → Nat} {kp cx sg : sr_M} : (sr_WC cI cR a kp cx sg)[19]? = some (a 19, .inl (cR, 3, .inr (.inr (.inr (.inr (sr_o a 20 3)))))) := rfl
theorem sr_wC20 {cI cR : ClassId} {a : Nat → Nat} {kp cx sg : sr_M} : (sr_WC cI cR a kp cx sg)[20]? = some (a 20, .inl (cI, 25, .inl (sg 1))) := rfl
theorem sr_wC21 {cI cR : ClassId} {a : Nat → Nat} {kp cx sg : sr_M} : (sr_WC cI cR a kp cx sg)[21]? = some (a 21, .inl (cI, 25, .inl (sg 2))) := rfl
theorem sr_wC22 {cI cR : ClassId} {a : Nat → Nat} {kp cx sg : sr_M} : (sr_WC cI cR a kp cx sg)[22]? = some (a 22, .inl (cI, 25, .inl (sg 3))) := rfl
theorem sr_wC23 {cI cR : ClassId} {a : Nat → Nat} {kp cx sg : sr_M} : (sr_WC cI cR a kp cx sg)[23]? = some (a 23, .inl (cR, 3, .inr (.inr (.inr (.inr (sr_o a 24 3)))))) := rfl
theorem sr_wC24 {cI cR : ClassId} {a : Nat → Nat} {kp cx sg : sr_M} : (sr_WC cI cR a kp cx sg)[24]? = some (a 24, .inl (cI, 25, .inl (sg 4))) := rfl
theorem sr_wC25 {cI cR : ClassId} {a : Nat → Nat} {kp cx sg : sr_M} : (sr_WC cI cR a kp cx sg)[25]? = some (a 25, .inl (cI, 25, .inl (sg 5))) := rfl
theorem sr_wC26 {cI cR : ClassId} {a : Nat → Nat} {kp cx sg : sr_M} : (sr_WC cI cR a kp cx sg)[26]? = some (a 26, .inl (cI, 25, .inl (sg 6))) := rfl
theorem sr_wC27 {cI cR : ClassId} {a : Nat → Nat} {kp cx sg : sr_M} : (sr_WC cI cR a kp cx sg)[27]? = some (a 27, .inl (cI, 8, .inl (sg 7))) := rfl
theorem sr_wC28 {cI cR : ClassId} {a : Nat → Nat} {kp cx sg : sr_M} : (sr_WC cI cR a kp cx sg)[28]? = some (a 28, .inl (cI, 3, .inl (sg 8))) := rfl
theorem sr_wC29 {cI cR : ClassId} {a : Nat → Nat} {kp cx sg : sr_M} : (sr_WC cI cR a kp cx sg)[29]? = some (a 29, .inl (cR, 4, .inr (.inr (.inr (.inr (sr_o a 30 4)))))) := rfl
theorem sr_wC30 {cI cR : ClassId} {a : Nat → Nat} {kp cx sg : sr_M} : (sr_WC cI cR a kp cx sg)[30]? = some (a 30, .inl (cI, 60, .inl (cx 6))) := rfl
theorem sr_wC31 {cI cR : ClassId} {a : Nat → Nat} {kp cx sg : sr_M} : (sr_WC cI cR a kp cx sg)[31]? = some (a 31, .inl (cI, 60, .inl (cx 7))) := rfl
theorem sr_wC32 {cI cR : ClassId} {a : Nat → Nat} {kp cx sg : sr_M} : (sr_WC cI cR a kp cx sg)[32]? = some (a 32, .inl (cI, 60, .inl (cx 8))) := rfl
theorem sr_wC33 {cI cR : ClassId} {a : Nat → Nat} {kp cx sg : sr_M} : (sr_WC cI cR a kp cx sg)[33]? = some (a 33, .inl (cI, 60, .inl (cx 9))) := rfl
theorem sr_wC34 {cI cR : ClassId} {a : Nat → Nat} {kp cx sg : sr_M} : (sr_WC cI cR a kp cx sg)[34]? = some (a 34, .inl (cI, 4, .inl (cx 10))) := rfl
theorem sr_wC35 {cI cR : ClassId} {a : Nat → Nat} {kp cx sg : sr_M} : (sr_WC cI cR a kp cx sg)[35]? = some (a 35, .inl (cI, 4, .inl (cx 11))) := rfl
theorem sr_sC8 {cI cR : ClassId} {a : Nat → Nat} {kp cx sg : sr_M} {f : Nat → Int32} : (sr_WC cI cR a kp cx sg).set 8 (a 8, .inl (cI, 40, .inl f)) = sr_WC cI cR a (va_up kp 0 f) cx sg := rfl
theorem sr_sC9 {cI cR : ClassId} {a : Nat → Nat} {kp cx sg : sr_M} {f : Nat → Int32} : (sr_WC cI cR a kp cx sg).set 9 (a 9, .inl (cI, 5, .inl f)) = sr_WC cI cR a kp (va_up cx 0 f) sg := rfl
theorem sr_sC10 {cI cR : ClassId} {a : Nat → Nat} {kp cx sg : sr_M} {f : Nat → Int32} : (sr_WC cI cR a kp cx sg).set 10 (a 10, .inl (cI, 5, .inl f)) = sr_WC cI cR a kp (va_up cx 1 f) sg := rfl
theorem sr_sC11 {cI cR : ClassId} {a : Nat → Nat} {kp cx sg : sr_M} {f : Nat → Int32} : (sr_WC cI cR a kp cx sg).set 11 (a 11, .inl (cI, 5, .inl f)) = sr_WC cI cR a kp (va_up cx 2 f) sg := rfl
theorem sr_sC12 {cI cR : ClassId} {a : Nat → Nat} {kp cx sg : sr_M} {f : Nat → Int32} : (sr_WC cI cR a kp cx sg).set 12 (a 12, .inl (cI, 5, .inl f)) = sr_WC cI cR a kp (va_up cx 3 f) sg := rfl
theorem sr_sC13 {cI cR : ClassId} {a : Nat → Nat} {kp cx sg : sr_M} {f : Nat → Int32} : (sr_WC cI cR a kp cx sg).set 13 (a 13, .inl (cI, 7, .inl f)) = sr_WC cI cR a (va_up kp 2 f) cx sg := rfl
theorem sr_sC14 {cI cR : ClassId} {a : Nat → Nat} {kp cx sg : sr_M} {f : Nat → Int32} : (sr_WC cI cR a kp cx sg).set 14 (a 14, .inl (cI, 4, .inl f)) = sr_WC cI cR a kp (va_up cx 5 f) sg := rfl
theorem sr_sC15 {cI cR : ClassId} {a : Nat → Nat} {kp cx sg : sr_M} {f : Nat → Int32} : (sr_WC cI cR a kp cx sg).set 15 (a 15, .inl (cI, 4, .inl f)) = sr_WC cI cR a (va_up kp 1 f) cx sg := rfl
theorem sr_sC16 {cI cR : ClassId} {a : Nat → Nat} {kp cx sg : sr_M} {f : Nat → Int32} : (sr_WC cI cR a kp cx sg).set 16 (a 16, .inl (cI, 3, .inl f)) = sr_WC cI cR a (va_up kp 3 f) cx sg := rfl
theorem sr_sC17 {cI cR : ClassId} {a : Nat → Nat} {kp cx sg : sr_M} {f : Nat → Int32} : (sr_WC cI cR a kp cx sg).set 17 (a 17, .inl (cI, 3, .inl f)) = sr_WC cI cR a (va_up kp 4 f) cx sg := rfl
theorem sr_sC18 {cI cR : ClassId} {a : Nat → Nat} {kp cx sg : sr_M} {f : Nat → Int32} : (sr_WC cI cR a kp cx sg).set 18 (a 18, .inl (cI, 5, .inl f)) = sr_WC cI cR a kp cx (va_up sg 0 f) := rfl
theorem sr_sC20 {cI cR : ClassId} {a : Nat → Nat} {kp cx sg : sr_M} {f : Nat → Int32} : (sr_WC cI cR a kp cx sg).set 20 (a 20, .inl (cI, 25, .inl f)) = sr_WC cI cR a kp cx (va_up sg 1 f) := rfl
theorem sr_sC21 {cI cR : ClassId} {a : Nat → Nat} {kp cx sg : sr_M} {f : Nat → Int32} : (sr_WC cI cR a kp cx sg).set 21 (a 21, .inl (cI, 25, .inl f)) = sr_WC cI cR a kp cx (va_up sg 2 f) := rfl
theorem sr_sC22 {cI cR : ClassId} {a : Nat → Nat} {kp cx sg : sr_M} {f : Nat → Int32} : (sr_WC cI cR a kp cx sg).set 22 (a 22, .inl (cI, 25, .inl f)) = sr_WC cI cR a kp cx (va_up sg 3 f) := rfl
theorem sr_sC24 {cI cR : ClassId} {a : Nat → Nat} {kp cx sg : sr_M} {f : Nat → Int32} : (sr_WC cI cR a kp cx sg).set 24 (a 24, .inl (cI, 25, .inl f)) = sr_WC cI cR a kp cx (va_up sg 4 f) := rfl
theorem sr_sC25 {cI cR : ClassId} {a : Nat → Nat} {kp cx sg : sr_M} {f : Nat → Int32} : (sr_WC cI cR a kp cx sg).set 25 (a 25, .inl (cI, 25, .inl f)) = sr_WC cI cR a kp cx (va_up sg 5 f) := rfl
theorem sr_sC26 {cI cR : ClassId} {a : Nat → Nat} {kp cx sg : sr_M} {f : Nat → Int32} : (sr_WC cI cR a kp cx sg).set 26 (a 26, .inl (cI, 25, .inl f)) = sr_WC cI cR a kp cx (va_up sg 6 f) := rfl
theorem sr_sC27 {cI cR : ClassId} {a : Nat → Nat} {kp cx sg : sr_M} {f : Nat → Int32} : (sr_WC cI cR a kp cx sg).set 27 (a 27, .inl (cI, 8, .inl f)) = sr_WC cI cR a kp cx (va_up sg 7 f) := rfl
theorem sr_sC28 {cI cR : ClassId} {a : Nat → Nat} {kp cx sg : sr_M} {f : Nat → Int32} : (sr_WC cI cR a kp cx sg).set 28 (a 28, .inl (cI, 3, .inl f)) = sr_WC cI cR a kp cx (va_up sg 8 f) := rfl
theorem sr_sC30 {cI cR : ClassId} {a : Nat → Nat} {kp cx sg : sr_M} {f : Nat → Int32} : (sr_WC cI cR a kp cx sg).set 30 (a 30, .inl (cI, 60, .inl f)) = sr_WC cI cR a kp (va_up cx 6 f) sg := rfl
theorem sr_sC31 {cI cR : ClassId} {a : Nat → Nat} {kp cx sg : sr_M} {f : Nat → Int32} : (sr_WC cI cR a kp cx sg).set 31 (a 31, .inl (cI, 60, .inl f)) = sr_WC cI cR a kp (va_up cx 7 f) sg := rfl
theorem sr_sC32 {cI cR : ClassId} {a : Nat → Nat} {kp cx sg : sr_M} {f : Nat → Int32} : (sr_WC cI cR a kp cx sg).set 32 (a 32, .inl (cI, 60, .inl f)) = sr_WC cI cR a kp (va_up cx 8 f) sg := rfl
theorem sr_sC33 {cI cR : ClassId} {a : Nat → Nat} {kp cx sg : sr_M} {f : Nat → Int32} : (sr_WC cI cR a kp cx sg).set 33 (a 33, .inl (cI, 60, .inl f)) = sr_WC cI cR a kp (va_up cx 9 f) sg := rfl
theorem sr_sC34 {cI cR : ClassId} {a : Nat → Nat} {kp cx sg : sr_M} {f : Nat → Int32} : (sr_WC cI cR a kp cx sg).set 34 (a 34, .inl (cI, 4, .inl f)) = sr_WC cI cR a kp (va_up cx 10 f) sg := rfl
theorem sr_sC35 {cI cR : ClassId} {a : Nat → Nat} {kp cx sg : sr_M} {f : Nat → Int32} : (sr_WC cI cR a kp cx sg).set 35 (a 35, .inl (cI, 4, .inl f)) = sr_WC cI cR a kp (va_up cx 11 f) sg := rfl
theorem sr_fC1_5 {cI cR : ClassId} {a : Nat → Nat} {kp cx sg : sr_M} {x : Int32} : (sr_WC cI cR a kp cx sg).set 1 (a 1, .inr (4, ([.ref (a 8), .ref (a 9), .ref (a 10), .ref (a 11), .ref (a 12), .int (kp 5 0), .int (cx 4 0), .int (cx 4 1)] : List Value).set 5 (.int x))) = sr_WC cI cR a (va_up kp 5 (upd (kp 5) 0 x)) cx sg := rfl
theorem sr_fC1_6 {cI cR : ClassId} {a : Nat → Nat} {kp cx sg : sr_M} {x : Int32} : (sr_WC cI cR a kp cx sg).set 1 (a 1, .inr (4, ([.ref (a 8), .ref (a 9), .ref (a 10), .ref (a 11), .ref (a 12), .int (kp 5 0), .int (cx 4 0), .int (cx 4 1)] : List Value).set 6 (.int x))) = sr_WC cI cR a kp (va_up cx 4 (upd (cx 4) 0 x)) sg := rfl
theorem sr_fC1_7 {cI cR : ClassId} {a : Nat → Nat} {kp cx sg : sr_M} {x : Int32} : (sr_WC cI cR a kp cx sg).set 1 (a 1, .inr (4, ([.ref (a 8), .ref (a 9), .ref (a 10), .ref (a 11), .ref (a 12), .int (kp 5 0), .int (cx 4 0), .int (cx 4 1)] : List Value).set 7 (.int x))) = sr_WC cI cR a kp (va_up cx 4 (upd (cx 4) 1 x)) sg := rfl
theorem sr_fC6_1 {cI cR : ClassId} {a : Nat → Nat} {kp cx sg : sr_M} {x : Int32} : (sr_WC cI cR a kp cx sg).set 6 (a 6, .inr (0, ([.ref (a 28), .int (sg 9 0)] : List Value).set 1 (.int x))) = sr_WC cI cR a kp cx (va_up sg 9 (upd (sg 9) 0 x)) := rfl
theorem sr_fC7_3 {cI cR : ClassId} {a : Nat → Nat} {kp cx sg : sr_M} {x : Int32} : (sr_WC cI cR a kp cx sg).set 7 (a 7, .inr (5, ([.ref (a 29), .ref (a 34), .ref (a 35), .int (kp 5 1)] : List Value).set 3 (.int x))) = sr_WC cI cR a (va_up kp 5 (upd (kp 5) 1 x)) cx sg := rfl
theorem sr_adC {cI cR : ClassId} {a : Nat → Nat} {kp cx sg : sr_M} {k : Nat} {q : Nat × va_E} (h : (sr_WC cI cR a kp cx sg)[k]? = some q) : k < 36 ∧ q.1 = a k := by
  have hk : k < 36 := (List.getElem?_eq_some_iff.mp h).1
  refine ⟨hk, ?_⟩
  rcases (show k = 0 ∨ k = 1 ∨ k = 2 ∨ k = 3 ∨ k = 4 ∨ k = 5 ∨ k = 6 ∨ k = 7 ∨ k = 8 ∨ k = 9 ∨ k = 10 ∨ k = 11 ∨ k = 12 ∨ k = 13 ∨ k = 14 ∨ k = 15 ∨ k = 16 ∨ k = 17 ∨ k = 18 ∨ k = 19 ∨ k = 20 ∨ k = 21 ∨ k = 22 ∨ k = 23 ∨ k = 24 ∨ k = 25 ∨ k = 26 ∨ k = 27 ∨ k = 28 ∨ k = 29 ∨ k = 30 ∨ k = 31 ∨ k = 32 ∨ k = 33 ∨ k = 34 ∨ k = 35 by omega) with rfl | rfl | rfl | rfl | rfl | rfl | rfl | rfl | rfl | rfl | rfl | rfl | rfl | rfl | rfl | rfl | rfl | rfl | rfl | rfl | rfl | rfl | rfl | rfl | rfl | rfl | rfl | rfl | rfl | rfl | rfl | rfl | rfl | rfl | rfl | rfl <;> (cases h; rfl)
theorem sr_DC {cI cR : ClassId} {a : Nat → Nat} (ha : ∀ i j, i < 36 → j < 36 → a i = a j → i = j) (kp cx sg : sr_M) : va_D (sr_AC a) (sr_WC cI cR a kp cx sg) := by
  refine ⟨fun i j x y hx hy hxy => ?_, fun k q hk => ?_⟩
  · obtain ⟨h1, h2⟩ := sr_adC hx
    obtain ⟨h3, h4⟩ := sr_adC hy
    exact ha i j h1 h3 (by rw [← h2, ← h4]; exact hxy)
  · obtain ⟨h1, h2⟩ := sr_adC hk
    exact ⟨k, h1, h2⟩
def sr_WM (cI : ClassId) (a : Nat → Nat) (kp cx sg : sr_M) : va_W := [(a 0, .inr (8, [.ref (a 1), .ref (a 2), .ref (a 3), .ref (a 4), .int (kp 5 1), .ref (a 5), .int (kp 5 0), .int (sg 1 0), .int (sg 1 1), .ref (a 6), .ref (a 7), .ref (a 8), .ref (a 9), .ref (a 10), .ref (a 11), .ref (a 12), .int (sg 1 2)])), (a 1, .inl (cI, 4, .inl (cx 0))), (a 2, .inl (cI, 4, .inl (cx 1))), (a 3, .inl (cI, 240, .inl (cx 2))), (a 4, .inl (cI, 60, .inl (sg 0))), (a 5, .inl (cI, 40, .inl (kp 0))), (a 6, .inl (cI, 20, .inl (sg 2))), (a 7, .inl (cI, 4, .inl (kp 1))), (a 8, .inl (cI, 7, .inl (kp 2))), (a 9, .inl (cI, 3, .inl (kp 3))), (a 10, .inl (cI, 3, .inl (kp 4))), (a 11, .inl (cI, 8, .inl (sg 3))), (a 12, .inl (cI, 8, .inl (sg 4)))]
def sr_AM (a : Nat → Nat) : Nat → Prop := fun q => ∃ k, k < 13 ∧ q = a k
theorem sr_wM0 {cI : ClassId} {a : Nat → Nat} {kp cx sg : sr_M} : (sr_WM cI a kp cx sg)[0]? = some (a 0, .inr (8, [.ref (a 1), .ref (a 2), .ref (a 3), .ref (a 4), .int (kp 5 1), .ref (a 5), .int (kp 5 0), .int (sg 1 0), .int (sg 1 1), .ref (a 6), .ref (a 7), .ref (a 8), .ref (a 9), .ref (a 10), .ref (a 11), .ref (a 12), .int (sg 1 2)])) := rfl
theorem sr_wM1 {cI : ClassId} {a : Nat → Nat} {kp cx sg : sr_M} : (sr_WM cI a kp cx sg)[1]? = some (a 1, .inl (cI, 4, .inl (cx 0))) := rfl
theorem sr_wM2 {cI : ClassId} {a : Nat → Nat} {kp cx sg : sr_M} : (sr_WM cI a kp cx sg)[2]? = some (a 2, .inl (cI, 4, .inl (cx 1))) := rfl
theorem sr_wM3 {cI : ClassId} {a : Nat → Nat} {kp cx sg : sr_M} : (sr_WM cI a kp cx sg)[3]? = some (a 3, .inl (cI, 240, .inl (cx 2))) := rfl
theorem sr_wM4 {cI : ClassId} {a : Nat → Nat} {kp cx sg : sr_M} : (sr_WM cI a kp cx sg)[4]? = some (a 4, .inl (cI, 60, .inl (sg 0))) := rfl
theorem sr_wM5 {cI : ClassId} {a : Nat → Nat} {kp cx sg : sr_M} : (sr_WM cI a kp cx sg)[5]? = some (a 5, .inl (cI, 40, .inl (kp 0))) := rfl
theorem sr_wM6 {cI : ClassId} {a : Nat → Nat} {kp cx sg : sr_M} : (sr_WM cI a kp cx sg)[6]? = some (a 6, .inl (cI, 20, .inl (sg 2))) := rfl
theorem sr_wM7 {cI : ClassId} {a : Nat → Nat} {kp cx sg : sr_M} : (sr_WM cI a kp cx sg)[7]? = some (a 7, .inl (cI, 4, .inl (kp 1))) := rfl
theorem sr_wM8 {cI : ClassId} {a : Nat → Nat} {kp cx sg : sr_M} : (sr_WM cI a kp cx sg)[8]? = some (a 8, .inl (cI, 7, .inl (kp 2))) := rfl
theorem sr_wM9 {cI : ClassId} {a : Nat → Nat} {kp cx sg : sr_M} : (sr_WM cI a kp cx sg)[9]? = some (a 9, .inl (cI, 3, .inl (kp 3))) := rfl
theorem sr_wM10 {cI : ClassId} {a : Nat → Nat} {kp cx sg : sr_M} : (sr_WM cI a kp cx sg)[10]? = some (a 10, .inl (cI, 3, .inl (kp 4))) := rfl
theorem sr_wM11 {cI : ClassId} {a : Nat → Nat} {kp cx sg : sr_M} : (sr_WM cI a kp cx sg)[11]? = some (a 11, .inl (cI, 8, .inl (sg 3))) := rfl
theorem sr_wM12 {cI : ClassId} {a : Nat → Nat} {kp cx sg : sr_M} : (sr_WM cI a kp cx sg)[12]? = some (a 12, .inl (cI, 8, .inl (sg 4))) := rfl
theorem sr_sM1 {cI : ClassId} {a : Nat → Nat} {kp cx sg : sr_M} {f : Nat → Int32} : (sr_WM cI a kp cx sg).set 1 (a 1, .inl (cI, 4, .inl f)) = sr_WM cI a kp (va_up cx 0 f) sg := rfl
theorem sr_sM2 {cI : ClassId} {a : Nat → Nat} {kp cx sg : sr_M} {f : Nat → Int32} : (sr_WM cI a kp cx sg).set 2 (a 2, .inl (cI, 4, .inl f)) = sr_WM cI a kp (va_up cx 1 f) sg := rfl
theorem sr_sM3 {cI : ClassId} {a : Nat → Nat} {kp cx sg : sr_M} {f : Nat → Int32} : (sr_WM cI a kp cx sg).set 3 (a 3, .inl (cI, 240, .inl f)) = sr_WM cI a kp (va_up cx 2 f) sg := rfl
theorem sr_sM4 {cI : ClassId} {a : Nat → Nat} {kp cx sg : sr_M} {f : Nat → Int32} : (sr_WM cI a kp cx sg).set 4 (a 4, .inl (cI, 60, .inl f)) = sr_WM cI a kp cx (va_up sg 0 f) := rfl
theorem sr_sM5 {cI : ClassId} {a : Nat → Nat} {kp cx sg : sr_M} {f : Nat → Int32} : (sr_WM cI a kp cx sg).set 5 (a 5, .inl (cI, 40, .inl f)) = sr_WM cI a (va_up kp 0 f) cx sg := rfl
theorem sr_sM6 {cI : ClassId} {a : Nat → Nat} {kp cx sg : sr_M} {f : Nat → Int32} : (sr_WM cI a kp cx sg).set 6 (a 6, .inl (cI, 20, .inl f)) = sr_WM cI a kp cx (va_up sg 2 f) := rfl
theorem sr_sM7 {cI : ClassId} {a : Nat → Nat} {kp cx sg : sr_M} {f : Nat → Int32} : (sr_WM cI a kp cx sg).set 7 (a 7, .inl (cI, 4, .inl f)) = sr_WM cI a (va_up kp 1 f) cx sg := rfl
theorem sr_sM8 {cI : ClassId} {a : Nat → Nat} {kp cx sg : sr_M} {f : Nat → Int32} : (sr_WM cI a kp cx sg).set 8 (a 8, .inl (cI, 7, .inl f)) = sr_WM cI a (va_up kp 2 f) cx sg := rfl
theorem sr_sM9 {cI : ClassId} {a : Nat → Nat} {kp cx sg : sr_M} {f : Nat → Int32} : (sr_WM cI a kp cx sg).set 9 (a 9, .inl (cI, 3, .inl f)) = sr_WM cI a (va_up kp 3 f) cx sg := rfl
theorem sr_sM10 {cI : ClassId} {a : Nat → Nat} {kp cx sg : sr_M} {f : Nat → Int32} : (sr_WM cI a kp cx sg).set 10 (a 10, .inl (cI, 3, .inl f)) = sr_WM cI a (va_up kp 4 f) cx sg := rfl
theorem sr_sM11 {cI : ClassId} {a : Nat → Nat} {kp cx sg : sr_M} {f : Nat → Int32} : (sr_WM cI a kp cx sg).set 11 (a 11, .inl (cI, 8, .inl f)) = sr_WM cI a kp cx (va_up sg 3 f) := rfl
theorem sr_sM12 {cI : ClassId} {a : Nat → Nat} {kp cx sg : sr_M} {f : Nat → Int32} : (sr_WM cI a kp cx sg).set 12 (a 12, .inl (cI, 8, .inl f)) = sr_WM cI a kp cx (va_up sg 4 f) := rfl
theorem sr_fM0_4 {cI : ClassId} {a : Nat → Nat} {kp cx sg : sr_M} {x : Int32} : (sr_WM cI a kp cx sg).set 0 (a 0, .inr (8, ([.ref (a 1), .ref (a 2), .ref (a 3), .ref (a 4), .int (kp 5 1), .ref (a 5), .int (kp 5 0), .int (sg 1 0), .int (sg 1 1), .ref (a 6), .ref (a 7), .ref (a 8), .ref (a 9), .ref (a 10), .ref (a 11), .ref (a 12), .int (sg 1 2)] : List Value).set 4 (.int x))) = sr_WM cI a (va_up kp 5 (upd (kp 5) 1 x)) cx sg := rfl
theorem sr_fM0_6 {cI : ClassId} {a : Nat → Nat} {kp cx sg : sr_M} {x : Int32} : (sr_WM cI a kp cx sg).set 0 (a 0, .inr (8, ([.ref (a 1), .ref (a 2), .ref (a 3), .ref (a 4), .int (kp 5 1), .ref (a 5), .int (kp 5 0), .int (sg 1 0), .int (sg 1 1), .ref (a 6), .ref (a 7), .ref (a 8), .ref (a 9), .ref (a 10), .ref (a 11), .ref (a 12), .int (sg 1 2)] : List Value).set 6 (.int x))) = sr_WM cI a (va_up kp 5 (upd (kp 5) 0 x)) cx sg := rfl
theorem sr_fM0_7 {cI : ClassId} {a : Nat → Nat} {kp cx sg : sr_M} {x : Int32} : (sr_WM cI a kp cx sg).set 0 (a 0, .inr (8, ([.ref (a 1), .ref (a 2), .ref (a 3), .ref (a 4), .int (kp 5 1), .ref (a 5), .int (kp 5 0), .int (sg 1 0), .int (sg 1 1), .ref (a 6), .ref (a 7), .ref (a 8), .ref (a 9), .ref (a 10), .ref (a 11), .ref (a 12), .int (sg 1 2)] : List Value).set 7 (.int x))) = sr_WM cI a kp cx (va_up sg 1 (upd (sg 1) 0 x)) := rfl
theorem sr_fM0_8 {cI : ClassId} {a : Nat → Nat} {kp cx sg : sr_M} {x : Int32} : (sr_WM cI a kp cx sg).set 0 (a 0, .inr (8, ([.ref (a 1), .ref (a 2), .ref (a 3), .ref (a 4), .int (kp 5 1), .ref (a 5), .int (kp 5 0), .int (sg 1 0), .int (sg 1 1), .ref (a 6), .ref (a 7), .ref (a 8), .ref (a 9), .ref (a 10), .ref (a 11), .ref (a 12), .int (sg 1 2)] : List Value).set 8 (.int x))) = sr_WM cI a kp cx (va_up sg 1 (upd (sg 1) 1 x)) := rfl
theorem sr_fM0_16 {cI : ClassId} {a : Nat → Nat} {kp cx sg : sr_M} {x : Int32} : (sr_WM cI a kp cx sg).set 0 (a 0, .inr (8, ([.ref (a 1), .ref (a 2), .ref (a 3), .ref (a 4), .int (kp 5 1), .ref (a 5), .int (kp 5 0), .int (sg 1 0), .int (sg 1 1), .ref (a 6), .ref (a 7), .ref (a 8), .ref (a 9), .ref (a 10), .ref (a 11), .ref (a 12), .int (sg 1 2)] : List Value).set 16 (.int x))) = sr_WM cI a kp cx (va_up sg 1 (upd (sg 1) 2 x)) := rfl
theorem sr_adM {cI : ClassId} {a : Nat → Nat} {kp cx sg : sr_M} {k : Nat} {q : Nat × va_E} (h : (sr_WM cI a kp cx sg)[k]? = some q) : k < 13 ∧ q.1 = a k := by
  have hk : k < 13 := (List.getElem?_eq_some_iff.mp h).1
  refine ⟨hk, ?_⟩
  rcases (show k = 0 ∨ k = 1 ∨ k = 2 ∨ k = 3 ∨ k = 4 ∨ k = 5 ∨ k = 6 ∨ k = 7 ∨ k = 8 ∨ k = 9 ∨ k = 10 ∨ k = 11 ∨ k = 12 by omega) with rfl | rfl | rfl | rfl | rfl | rfl | rfl | rfl | rfl | rfl | rfl | rfl | rfl <;> (cases h; rfl)
theorem sr_DM {cI : ClassId} {a : Nat → Nat} (ha : ∀ i j, i < 13 → j < 13 → a i = a j → i = j) (kp cx sg : sr_M) : va_D (sr_AM a) (sr_WM cI a kp cx sg) := by
  refine ⟨fun i j x y hx hy hxy => ?_, fun k q hk => ?_⟩
  · obtain ⟨h1, h2⟩ := sr_adM hx
    obtain ⟨h3, h4⟩ := sr_adM hy
    exact ha i j h1 h3 (by rw [← h2, ← h4]; exact hxy)
  · obtain ⟨h1, h2⟩ := sr_adM hk
    exact ⟨k, h1, h2⟩
abbrev sr_tC (cI cR : ClassId) : List (ClassId × FieldType) := [(cI, .int), (cR, .array .int)]
abbrev sr_tM (cI : ClassId) : List (ClassId × FieldType) := [(cI, .int)]
end
section
/-! ROWS over the frame: entries with the end as a hypothesis, fields, rows, branches on a told truth, calls -/
theorem sr_Zs {A : Nat → Prop} {Z : State → Heap → Prop} {s : State} {H : Heap} {locs : List Loc} (hZ : sr_Zok A Z) (h0 : Z s s.heap) (hS : va_S A s.heap H locs) : Z s H := hZ.2.2 s s.heap H hS.2.1 h0
section SRE
variable {l : Launch} {D : va_G} {tys : List (ClassId × FieldType)} {Z : State → Heap → Prop} {A : Nat → Prop} {w : va_W} {y : MethodName} {b : ByteArray} {n : Nat} {ret : Option FieldType} {fr lo : Nat} {As : List Value}
/-- what a body begins with -/
def sr_Bg (D : va_G) (tys : List (ClassId × FieldType)) (Z : State → Heap → Prop) (w : va_W) (y : MethodName) (b : ByteArray) (n : Nat) (As : List Value) (p : Program) (s : State) (m : MethodId) (args : Array Value) (c : Code) (ls : Array Slot) : Prop :=
  CallFix p m c b n s args sr_ws y.cls ∧ va_P D vwCl w s.heap ∧ va_K D vwCl tys s ∧ Z s s.heap ∧ lv_has ls n (lv_args 0 As)
theorem sr_Pie {f : Int32} (hy : plainFor y = true) (hle : (lg_sl As).length ≤ n)
    (body : ∀ (p : Program) (e : Env) (s : State) (m : MethodId) (args : Array Value) (below : List Frame) (meth : Method) (c : Code) (ls : Array Slot) (Q : State → Prop), sr_Bg D tys Z w y b n As p s m args c ls →
      (∀ (pc : Nat) (ls : Array Slot) (v : Int32), decode b pc = .ok (.ireturn, 1) → v = f → W p l e (sr_rm fr lo) s m args below meth c s.heap [] 0 0 Q (F0 m pc ls [.int v])) →
      W p l e (sr_rm fr lo) s m args below meth c s.heap [] 0 0 Q (F0 m 0 ls [])) : sr_P l D tys Z w y b n (some .int) fr lo As (some (.int f)) :=
  sr_Pof hy hle (fun p e s m args below meth c ls C0 hr hlk hP hK hZ hl => body p e s m args below meth c ls _ ⟨C0, hP, hK, hZ, hl⟩ (fun _ _ _ hdg hv => sr_Pi C0 hr hlk hv hdg))
theorem sr_nz {v : Int32} (h : v = 0 ∨ v = 1) : narrow .boolean (.int v) = .int v := by rcases h with rfl | rfl <;> rfl
theorem sr_Pze {f : Prop} [Decidable f] (hy : plainFor y = true) (hle : (lg_sl As).length ≤ n)
    (body : ∀ (p : Program) (e : Env) (s : State) (m : MethodId) (args : Array Value) (below : List Frame) (meth : Method) (c : Code) (ls : Array Slot) (Q : State → Prop), sr_Bg D tys Z w y b n As p s m args c ls →
      (∀ (pc : Nat) (ls : Array Slot) (v : Int32), decode b pc = .ok (.ireturn, 1) → v = (if f then 1 else 0) → W p l e (sr_rm fr lo) s m args below meth c s.heap [] 0 0 Q (F0 m pc ls [.int v])) →
      W p l e (sr_rm fr lo) s m args below meth c s.heap [] 0 0 Q (F0 m 0 ls [])) : sr_P l D tys Z w y b n (some .boolean) fr lo As (some (.int (if f then 1 else 0))) :=
  sr_Pof hy hle (fun p e s m args below meth c ls C0 hr hlk hP hK hZ hl => body p e s m args below meth c ls _ ⟨C0, hP, hK, hZ, hl⟩ (fun _ _ _ hdg hv => sr_Pz C0 hr hlk hv (sr_nz (by rw [hv]; by_cases h : f <;> simp [h])) hdg))
theorem sr_Ple {f : Int64} (hy : plainFor y = true) (hle : (lg_sl As).length ≤ n)
    (body : ∀ (p : Program) (e : Env) (s : State) (m : MethodId) (args : Array Value) (below : List Frame) (meth : Method) (c : Code) (ls : Array Slot) (Q : State → Prop), sr_Bg D tys Z w y b n As p s m args c ls →
      (∀ (pc : Nat) (ls : Array Slot) (v : Int64), decode b pc = .ok (.lreturn, 1) → v = f → W p l e (sr_rm fr lo) s m args below meth c s.heap [] 0 0 Q (F0 m pc ls [.long v])) →
      W p l e (sr_rm fr lo) s m args below meth c s.heap [] 0 0 Q (F0 m 0 ls [])) : sr_P l D tys Z w y b n (some .long) fr lo As (some (.long f)) :=
  sr_Pof hy hle (fun p e s m args below meth c ls C0 hr hlk hP hK hZ hl => body p e s m args below meth c ls _ ⟨C0, hP, hK, hZ, hl⟩ (fun _ _ _ hdg hv => sr_Pl C0 hr hlk hv hdg))
theorem sr_Gie {S : Type} {P : S → Prop} {w2 : S → va_W} {f : S → Int32} (hy : plainFor y = true) (hle : (lg_sl As).length ≤ n)
    (body : ∀ (p : Program) (e : Env) (s : State) (m : MethodId) (args : Array Value) (below : List Frame) (meth : Method) (c : Code) (ls : Array Slot) (Q : State → Prop), sr_Bg D tys Z w y b n As p s m args c ls →
      (∀ (H : Heap) (locs : List Loc) (w' : va_W) (u : S) (pc : Nat) (ls : Array Slot) (v : Int32), decode b pc = .ok (.ireturn, 1) → va_P D vwCl w' H → va_S A s.heap H locs → w' = w2 u → v = f u → P u → W p l e (sr_rm fr lo) s m args below meth c H locs 0 0 Q (F0 m pc ls [.int v])) →
      W p l e (sr_rm fr lo) s m args below meth c s.heap [] 0 0 Q (F0 m 0 ls [])) : sr_G l D tys Z A w y b n (some .int) fr lo As P w2 (fun u => some (.int (f u))) :=
  sr_Gof hy hle (fun p e s m args below meth c ls C0 hr hlk hP hK hZ hl => body p e s m args below meth c ls _ ⟨C0, hP, hK, hZ, hl⟩ (fun _ _ _ u _ _ _ hdg hP hS hw hv hu => sr_Gi C0 hr hlk hP hS u hv hu hw hdg))
theorem sr_Gze {S : Type} {P : S → Prop} {w2 : S → va_W} {f : S → Prop} [DecidablePred f] (hy : plainFor y = true) (hle : (lg_sl As).length ≤ n)
    (body : ∀ (p : Program) (e : Env) (s : State) (m : MethodId) (args : Array Value) (below : List Frame) (meth : Method) (c : Code) (ls : Array Slot) (Q : State → Prop), sr_Bg D tys Z w y b n As p s m args c ls →
      (∀ (H : Heap) (locs : List Loc) (w' : va_W) (u : S) (pc : Nat) (ls : Array Slot) (v : Int32), decode b pc = .ok (.ireturn, 1) → va_P D vwCl w' H → va_S A s.heap H locs → w' = w2 u → v = (if f u then 1 else 0) → P u → W p l e (sr_rm fr lo) s m args below meth c H locs 0 0 Q (F0 m pc ls [.int v])) →
      W p l e (sr_rm fr lo) s m args below meth c s.heap [] 0 0 Q (F0 m 0 ls [])) : sr_G l D tys Z A w y b n (some .boolean) fr lo As P w2 (fun u => some (.int (if f u then 1 else 0))) :=
  sr_Gof hy hle (fun p e s m args below meth c ls C0 hr hlk hP hK hZ hl => body p e s m args below meth c ls _ ⟨C0, hP, hK, hZ, hl⟩ (fun _ _ _ u _ _ _ hdg hP hS hw hv hu => sr_Gz (f := fun u => if f u then 1 else 0) C0 hr hlk hP hS u hv (sr_nz (by rw [hv]; by_cases h : f u <;> simp [h])) hu hw hdg))
theorem sr_Gle {S : Type} {P : S → Prop} {w2 : S → va_W} {f : S → Int64} (hy : plainFor y = true) (hle : (lg_sl As).length ≤ n)
    (body : ∀ (p : Program) (e : Env) (s : State) (m : MethodId) (args : Array Value) (below : List Frame) (meth : Method) (c : Code) (ls : Array Slot) (Q : State → Prop), sr_Bg D tys Z w y b n As p s m args c ls →
      (∀ (H : Heap) (locs : List Loc) (w' : va_W) (u : S) (pc : Nat) (ls : Array Slot) (v : Int64), decode b pc = .ok (.lreturn, 1) → va_P D vwCl w' H → va_S A s.heap H locs → w' = w2 u → v = f u → P u → W p l e (sr_rm fr lo) s m args below meth c H locs 0 0 Q (F0 m pc ls [.long v])) →
      W p l e (sr_rm fr lo) s m args below meth c s.heap [] 0 0 Q (F0 m 0 ls [])) : sr_G l D tys Z A w y b n (some .long) fr lo As P w2 (fun u => some (.long (f u))) :=
  sr_Gof hy hle (fun p e s m args below meth c ls C0 hr hlk hP hK hZ hl => body p e s m args below meth c ls _ ⟨C0, hP, hK, hZ, hl⟩ (fun _ _ _ u _ _ _ hdg hP hS hw hv hu => sr_Gl C0 hr hlk hP hS u hv hu hw hdg))
theorem sr_Gve {S : Type} {P : S → Prop} {w2 : S → va_W} (hy : plainFor y = true) (hle : (lg_sl As).length ≤ n)
    (body : ∀ (p : Program) (e : Env) (s : State) (m : MethodId) (args : Array Value) (below : List Frame) (meth : Method) (c : Code) (ls : Array Slot) (Q : State → Prop), sr_Bg D tys Z w y b n As p s m args c ls →
      (∀ (H : Heap) (locs : List Loc) (w' : va_W) (u : S) (pc : Nat) (ls : Array Slot), decode b pc = .ok (.return_, 1) → va_P D vwCl w' H → va_S A s.heap H locs → w' = w2 u → P u → W p l e (sr_rm fr lo) s m args below meth c H locs 0 0 Q (F0 m pc ls [])) →
      W p l e (sr_rm fr lo) s m args below meth c s.heap [] 0 0 Q (F0 m 0 ls [])) : sr_G l D tys Z A w y b n none fr lo As P w2 (fun _ => none) :=
  sr_Gof hy hle (fun p e s m args below meth c ls C0 hr hlk hP hK hZ hl => body p e s m args below meth c ls _ ⟨C0, hP, hK, hZ, hl⟩ (fun _ _ _ u _ _ hdg hP hS hw hu => sr_Gv C0 hr hlk hP hS u hu hw hdg))
end SRE
section SRR
variable {p : Program} {l : Launch} {e : Env} {R : Room} {s : State} {m : MethodId} {args : Array Value} {below : List Frame} {meth : Method} {c : Code} {H : Heap} {locs : List Loc} {cells slots : Nat} {Q : State → Prop}
variable {cc : ByteArray} {pc nL : Nat} {ls : Array Slot} {rest st0 : List Value} {D : va_G} {A : Nat → Prop} {tys : List (ClassId × FieldType)} {Z : State → Heap → Prop} {w : va_W} {own : String}
theorem sr_get {C : String} {T : u_T} {N ci index q0 a : Nat} (C0 : CallFix p m c cc nL s args sr_ws own) (hK : va_K D vwCl tys s) (hP : va_P D vwCl w H) (hin : ∀ x ∈ u_ws C T N, x ∈ sr_ws) {fs : List Value} (he : w[q0]? = some (a, .inr (ci, fs))) (hc : vwCl[ci]? = some (C, T, N)) (k : Nat) (hk : k < N) (hlink : Cond.fieldLink own index (T k).1 (T k).2.1 (T k).2.2.1 ∈ sr_ws) {v : Value} (hv : fs[k]? = some v) (hdg : decode cc pc = .ok (.getfield index, 3))
    (kk : W p l e R s m args below meth c H locs cells slots Q (F0 m (pc + 3) ls (v :: rest))) : W p l e R s m args below meth c H locs cells slots Q (F0 m pc ls (.ref a :: rest)) :=
  va_get C0.1 C0.2.1 C0.2.2.2.2 hin C0.2.2.2.1 hK hP q0 he hc k hk (C0.2.2.2.2 _ hlink) (fun _ h => h) hv hdg kk
theorem sr_put {C : String} {T : u_T} {N ci index q0 a : Nat} {H0 : Heap} (C0 : CallFix p m c cc nL s args sr_ws own) (hK : va_K D vwCl tys s) (hP : va_P D vwCl w H) (hD : va_D A w) (hS : va_S A H0 H locs) (hin : ∀ x ∈ u_ws C T N, x ∈ sr_ws) {ty0 : Nat → FieldType} (hty : ∀ k, k < N → parseFieldDescriptor (T k).2.2.1 = some (ty0 k)) (hnm : ∀ a, a < N → ∀ b, b < N → a ≠ b → (T a).2.1 ≠ (T b).2.1) {fs : List Value} (he : w[q0]? = some (a, .inr (ci, fs))) (hc : vwCl[ci]? = some (C, T, N)) (k : Nat) (hk : k < N) (hlink : Cond.fieldLink own index (T k).1 (T k).2.1 (T k).2.2.1 ∈ sr_ws) (hfin : (T k).2.2.2 = false) (hd : parseFieldDescriptor (T k).2.2.1 = some .int) (hl : k < fs.length) {x : Int32} {w' : va_W} (hw : w.set q0 (a, .inr (ci, fs.set k (.int x))) = w') (hdg : decode cc pc = .ok (.putfield index, 3))
    (kk : ∀ (H1 : Heap) (locs1 : List Loc), va_P D vwCl w' H1 → va_S A H0 H1 locs1 → W p l e R s m args below meth c H1 locs1 cells slots Q (F0 m (pc + 3) ls rest)) : W p l e R s m args below meth c H locs cells slots Q (F0 m pc ls (.int x :: .ref a :: rest)) := by
  subst hw
  exact va_put C0.1 C0.2.1 C0.2.2.2.2 hin ty0 hty hnm C0.2.2.2.1 hK hP hD hS q0 he hc k hk (C0.2.2.2.2 _ hlink) (fun _ h => h) hfin hd rfl rfl hl hdg (fun H1 l1 h1 _ h3 => kk H1 l1 h1 h3)
/-- a row of an array of int rows -/
theorem sr_ald2 {cR : ClassId} (C0 : CallFix p m c cc nL s args sr_ws own) (hK : va_K D vwCl tys s) (ht : tys[1]? = some (cR, .array .int)) (hP : va_P D vwCl w H) {q0 nn a : Nat} {f : Nat → Option Nat} (ha : w[q0]? = some (a, .inl (cR, nn, .inr (.inr (.inr (.inr f)))))) {i : Int32} {k : Nat} (hk : i.toNatClampNeg = k) (hin : vp_in i nn) {r : Nat} (hr : f k = some r) (hdg : decode cc pc = .ok (.aaload, 1))
    (kk : W p l e R s m args below meth c H locs cells slots Q (F0 m (pc + 1) ls (.ref r :: rest))) : W p l e R s m args below meth c H locs cells slots Q (F0 m pc ls (.int i :: .ref a :: rest)) := by
  have hlt : i.toNatClampNeg < nn := Nat.not_le.mp fun q => hin (Or.inr q)
  refine W.aald (v := .ref r) (ty := .array .int) C0.1 C0.2.1 (hP q0 _ ha) ((hK.2 1 _ ht).1 nn (fun j => va_rf (f j))) rfl (fun q => by cases q) (by show ¬ (i < 0 ∨ (arrV _ _ _).slots.size ≤ _); rw [arrV_size]; exact hin) (by show (arrV _ _ _).slots[_]? = _; rw [arrV_read _ _ hlt, hk, hr]; rfl) rfl rfl hdg kk
theorem sr_ifeq {P : Prop} [Decidable P] (C0 : CallFix p m c cc nL s args sr_ws own) {off : Int} {tgt : Nat} (hdg : decode cc pc = .ok (.ifCond .eq off, 3)) (ht : (pc : Int) + off = (tgt : Int)) (kt : ¬ P → W p l e R s m args below meth c H locs cells slots Q (F0 m tgt ls rest)) (kf : P → W p l e R s m args below meth c H locs cells slots Q (F0 m (pc + 3) ls rest)) : W p l e R s m args below meth c H locs cells slots Q (F0 m pc ls (.int (if P then 1 else 0) :: rest)) := by
  by_cases h : P
  · rw [if_pos h]
    exact lv_if_eq C0.1 C0.2.1 hdg ht (fun q => absurd q (by decide)) (fun _ => kf h)
  · rw [if_neg h]
    exact lv_if_eq C0.1 C0.2.1 hdg ht (fun _ => kt h) (fun q => absurd rfl q)
theorem sr_ifne {P : Prop} [Decidable P] (C0 : CallFix p m c cc nL s args sr_ws own) {off : Int} {tgt : Nat} (hdg : decode cc pc = .ok (.ifCond .ne off, 3)) (ht : (pc : Int) + off = (tgt : Int)) (kt : P → W p l e R s m args below meth c H locs cells slots Q (F0 m tgt ls rest)) (kf : ¬ P → W p l e R s m args below meth c H locs cells slots Q (F0 m (pc + 3) ls rest)) : W p l e R s m args below meth c H locs cells slots Q (F0 m pc ls (.int (if P then 1 else 0) :: rest)) := by
  by_cases h : P
  · rw [if_pos h]
    exact lv_if_ne C0.1 C0.2.1 hdg ht (fun _ => kt h) (fun q => absurd q (by decide))
  · rw [if_neg h]
    exact lv_if_ne C0.1 C0.2.1 hdg ht (fun q => absurd rfl q) (fun _ => kf h)
-- calls with their answers; V: virtual, S: static, N: static of a nest mate; the world they need is the caller's
variable {y : MethodName} {b : ByteArray} {n na fr lo index : Nat} {ret : Option FieldType} {As : List Value}
theorem sr_pVi (C0 : CallFix p m c cc nL s args sr_ws own) (hK : va_K D vwCl tys s) (hP : va_P D vwCl w H) (hZ : sr_Zok A Z) (hZs : Z s H) {q : Addr} {f : Int32} (hM : sr_P l D tys Z w y b n ret fr lo (.ref q :: As) (some (.int f))) (hk : sr_ok y b n ret na) (hkV : sr_okV y) (hl : Cond.methodLink own index y ∈ sr_ws) {ci q0 N : Nat} {T : u_T} {fs : List Value} (hc : vwCl[ci]? = some (y.cls, T, N)) (he : w[q0]? = some (q, .inr (ci, fs))) (hst : st0 = As.reverse ++ .ref q :: rest) (hn : As.length = na) (hsz : ls.size = nL) (hfr : fr + 1 ≤ R.frames) (hlo : 8 + (n + 11) + lo ≤ R.locals) (hW : (rest.map fun v => v.category).sum ≤ 8) (hdg : decode cc pc = .ok (.invokevirtual index, 3)) (hcs : cells ≤ R.cells ∧ slots ≤ R.slots)
    (kk : W p l e R s m args below meth c H locs cells slots Q (F0 m (pc + 3) ls (.int f :: rest))) : W p l e R s m args below meth c H locs cells slots Q (F0 m pc ls st0) :=
  sr_goP (sr_rV C0 hK hP hZ hZs hM hk hkV hl hc he hst hn hsz hfr hlo hW hdg hcs) kk
theorem sr_pVl (C0 : CallFix p m c cc nL s args sr_ws own) (hK : va_K D vwCl tys s) (hP : va_P D vwCl w H) (hZ : sr_Zok A Z) (hZs : Z s H) {q : Addr} {f : Int64} (hM : sr_P l D tys Z w y b n ret fr lo (.ref q :: As) (some (.long f))) (hk : sr_ok y b n ret na) (hkV : sr_okV y) (hl : Cond.methodLink own index y ∈ sr_ws) {ci q0 N : Nat} {T : u_T} {fs : List Value} (hc : vwCl[ci]? = some (y.cls, T, N)) (he : w[q0]? = some (q, .inr (ci, fs))) (hst : st0 = As.reverse ++ .ref q :: rest) (hn : As.length = na) (hsz : ls.size = nL) (hfr : fr + 1 ≤ R.frames) (hlo : 8 + (n + 11) + lo ≤ R.locals) (hW : (rest.map fun v => v.category).sum ≤ 8) (hdg : decode cc pc = .ok (.invokevirtual index, 3)) (hcs : cells ≤ R.cells ∧ slots ≤ R.slots)
    (kk : W p l e R s m args below meth c H locs cells slots Q (F0 m (pc + 3) ls (.long f :: rest))) : W p l e R s m args below meth c H locs cells slots Q (F0 m pc ls st0) :=
  sr_goP (sr_rV C0 hK hP hZ hZs hM hk hkV hl hc he hst hn hsz hfr hlo hW hdg hcs) kk
theorem sr_pSi (C0 : CallFix p m c cc nL s args sr_ws own) (hK : va_K D vwCl tys s) (hP : va_P D vwCl w H) (hZ : sr_Zok A Z) (hZs : Z s H) {f : Int32} (hM : sr_P l D tys Z w y b n ret fr lo As (some (.int f))) (hk : sr_ok y b n ret na) (hkS : Cond.static y ∈ sr_ws) (hl : Cond.methodLink own index y ∈ sr_ws) (hst : st0 = As.reverse ++ rest) (hn : As.length = na) (hsz : ls.size = nL) (hfr : fr + 1 ≤ R.frames) (hlo : 8 + (n + 11) + lo ≤ R.locals) (hW : (rest.map fun v => v.category).sum ≤ 8) (hdg : decode cc pc = .ok (.invokestatic index, 3)) (hcs : cells ≤ R.cells ∧ slots ≤ R.slots)
    (kk : W p l e R s m args below meth c H locs cells slots Q (F0 m (pc + 3) ls (.int f :: rest))) : W p l e R s m args below meth c H locs cells slots Q (F0 m pc ls st0) :=
  sr_goP (sr_rS C0 hK hP hZ hZs hM hk hkS hl hst hn hsz hfr hlo hW hdg hcs) kk
theorem sr_pSl (C0 : CallFix p m c cc nL s args sr_ws own) (hK : va_K D vwCl tys s) (hP : va_P D vwCl w H) (hZ : sr_Zok A Z) (hZs : Z s H) {f : Int64} (hM : sr_P l D tys Z w y b n ret fr lo As (some (.long f))) (hk : sr_ok y b n ret na) (hkS : Cond.static y ∈ sr_ws) (hl : Cond.methodLink own index y ∈ sr_ws) (hst : st0 = As.reverse ++ rest) (hn : As.length = na) (hsz : ls.size = nL) (hfr : fr + 1 ≤ R.frames) (hlo : 8 + (n + 11) + lo ≤ R.locals) (hW : (rest.map fun v => v.category).sum ≤ 8) (hdg : decode cc pc = .ok (.invokestatic index, 3)) (hcs : cells ≤ R.cells ∧ slots ≤ R.slots)
    (kk : W p l e R s m args below meth c H locs cells slots Q (F0 m (pc + 3) ls (.long f :: rest))) : W p l e R s m args below meth c H locs cells slots Q (F0 m pc ls st0) :=
  sr_goP (sr_rS C0 hK hP hZ hZs hM hk hkS hl hst hn hsz hfr hlo hW hdg hcs) kk
theorem sr_pNi {host : String} (C0 : CallFix p m c cc nL s args sr_ws own) (hK : va_K D vwCl tys s) (hP : va_P D vwCl w H) (hZ : sr_Zok A Z) (hZs : Z s H) {f : Int32} (hM : sr_P l D tys Z w y b n ret fr lo As (some (.int f))) (hk : sr_ok y b n ret na) (hkS : Cond.static y ∈ sr_ws) (hl : va_Nw (.methodLinkNest own index y host) s) (hst : st0 = As.reverse ++ rest) (hn : As.length = na) (hsz : ls.size = nL) (hfr : fr + 1 ≤ R.frames) (hlo : 8 + (n + 11) + lo ≤ R.locals) (hW : (rest.map fun v => v.category).sum ≤ 8) (hdg : decode cc pc = .ok (.invokestatic index, 3)) (hcs : cells ≤ R.cells ∧ slots ≤ R.slots)
    (kk : W p l e R s m args below meth c H locs cells slots Q (F0 m (pc + 3) ls (.int f :: rest))) : W p l e R s m args below meth c H locs cells slots Q (F0 m pc ls st0) :=
  sr_goP (sr_rSN C0 hK hP hZ hZs hM hk hkS hl hst hn hsz hfr hlo hW hdg hcs) kk
variable {S : Type} {P : S → Prop} {w2 : S → va_W} {H0 : Heap} {A0 : Nat → Prop}
theorem sr_gVi (C0 : CallFix p m c cc nL s args sr_ws own) (hK : va_K D vwCl tys s) (hP : va_P D vwCl w H) (hZ : sr_Zok A Z) (hZs : Z s H) {q : Addr} {f : S → Int32} (hM : sr_G l D tys Z A w y b n ret fr lo (.ref q :: As) P w2 (fun u => some (.int (f u)))) (hk : sr_ok y b n ret na) (hkV : sr_okV y) (hl : Cond.methodLink own index y ∈ sr_ws) {ci q0 N : Nat} {T : u_T} {fs : List Value} (hc : vwCl[ci]? = some (y.cls, T, N)) (he : w[q0]? = some (q, .inr (ci, fs))) (hst : st0 = As.reverse ++ .ref q :: rest) (hn : As.length = na) (hsz : ls.size = nL) (hfr : fr + 1 ≤ R.frames) (hlo : 8 + (n + 11) + lo ≤ R.locals) (hW : (rest.map fun v => v.category).sum ≤ 8) (hdg : decode cc pc = .ok (.invokevirtual index, 3)) (hcs : cells ≤ R.cells ∧ slots ≤ R.slots) (hS : va_S A s.heap H locs)
    (kk : ∀ (u : S) (H1 : Heap) (locs1 : List Loc), P u → va_P D vwCl (w2 u) H1 → va_S A s.heap H1 locs1 → W p l e R s m args below meth c H1 locs1 cells slots Q (F0 m (pc + 3) ls (.int (f u) :: rest))) : W p l e R s m args below meth c H locs cells slots Q (F0 m pc ls st0) :=
  sr_goG (sr_rV C0 hK hP hZ hZs hM hk hkV hl hc he hst hn hsz hfr hlo hW hdg hcs) hS (fun _ h => h) (fun u H1 l1 h1 h2 h3 _ _ => kk u H1 l1 h1 h2 h3)
theorem sr_gVl (C0 : CallFix p m c cc nL s args sr_ws own) (hK : va_K D vwCl tys s) (hP : va_P D vwCl w H) (hZ : sr_Zok A Z) (hZs : Z s H) {q : Addr} {f : S → Int64} (hM : sr_G l D tys Z A w y b n ret fr lo (.ref q :: As) P w2 (fun u => some (.long (f u)))) (hk : sr_ok y b n ret na) (hkV : sr_okV y) (hl : Cond.methodLink own index y ∈ sr_ws) {ci q0 N : Nat} {T : u_T} {fs : List Value} (hc : vwCl[ci]? = some (y.cls, T, N)) (he : w[q0]? = some (q, .inr (ci, fs))) (hst : st0 = As.reverse ++ .ref q :: rest) (hn : As.length = na) (hsz : ls.size = nL) (hfr : fr + 1 ≤ R.frames) (hlo : 8 + (n + 11) + lo ≤ R.locals) (hW : (rest.map fun v => v.category).sum ≤ 8) (hdg : decode cc pc = .ok (.invokevirtual index, 3)) (hcs : cells ≤ R.cells ∧ slots ≤ R.slots) (hS : va_S A s.heap H locs)
    (kk : ∀ (u : S) (H1 : Heap) (locs1 : List Loc), P u → va_P D vwCl (w2 u) H1 → va_S A s.heap H1 locs1 → W p l e R s m args below meth c H1 locs1 cells slots Q (F0 m (pc + 3) ls (.long (f u) :: rest))) : W p l e R s m args below meth c H locs cells slots Q (F0 m pc ls st0) :=
  sr_goG (sr_rV C0 hK hP hZ hZs hM hk hkV hl hc he hst hn hsz hfr hlo hW hdg hcs) hS (fun _ h => h) (fun u H1 l1 h1 h2 h3 _ _ => kk u H1 l1 h1 h2 h3)
theorem sr_gVv (C0 : CallFix p m c cc nL s args sr_ws own) (hK : va_K D vwCl tys s) (hP : va_P D vwCl w H) (hZ : sr_Zok A Z) (hZs : Z s H) {q : Addr} (hM : sr_G l D tys Z A w y b n ret fr lo (.ref q :: As) P w2 (fun _ => none)) (hk : sr_ok y b n ret na) (hkV : sr_okV y) (hl : Cond.methodLink own index y ∈ sr_ws) {ci q0 N : Nat} {T : u_T} {fs : List Value} (hc : vwCl[ci]? = some (y.cls, T, N)) (he : w[q0]? = some (q, .inr (ci, fs))) (hst : st0 = As.reverse ++ .ref q :: rest) (hn : As.length = na) (hsz : ls.size = nL) (hfr : fr + 1 ≤ R.frames) (hlo : 8 + (n + 11) + lo ≤ R.locals) (hW : (rest.map fun v => v.category).sum ≤ 8) (hdg : decode cc pc = .ok (.invokevirtual index, 3)) (hcs : cells ≤ R.cells ∧ slots ≤ R.slots) (hS : va_S A s.heap H locs)
    (kk : ∀ (u : S) (H1 : Heap) (locs1 : List Loc), P u → va_P D vwCl (w2 u) H1 → va_S A s.heap H1 locs1 → W p l e R s m args below meth c H1 locs1 cells slots Q (F0 m (pc + 3) ls rest)) : W p l e R s m args below meth c H locs cells slots Q (F0 m pc ls st0) :=
  sr_goG (sr_rV C0 hK hP hZ hZs hM hk hkV hl hc he hst hn hsz hfr hlo hW hdg hcs) hS (fun _ h => h) (fun u H1 l1 h1 h2 h3 _ _ => kk u H1 l1 h1 h2 h3)
theorem sr_gSi (C0 : CallFix p m c cc nL s args sr_ws own) (hK : va_K D vwCl tys s) (hP : va_P D vwCl w H) (hZ : sr_Zok A Z) (hZs : Z s H) {f : S → Int32} (hM : sr_G l D tys Z A w y b n ret fr lo As P w2 (fun u => some (.int (f u)))) (hk : sr_ok y b n ret na) (hkS : Cond.static y ∈ sr_ws) (hl : Cond.methodLink own index y ∈ sr_ws) (hst : st0 = As.reverse ++ rest) (hn : As.length = na) (hsz : ls.size = nL) (hfr : fr + 1 ≤ R.frames) (hlo : 8 + (n + 11) + lo ≤ R.locals) (hW : (rest.map fun v => v.category).sum ≤ 8) (hdg : decode cc pc = .ok (.invokestatic index, 3)) (hcs : cells ≤ R.cells ∧ slots ≤ R.slots) (hS : va_S A s.heap H locs)
    (kk : ∀ (u : S) (H1 : Heap) (locs1 : List Loc), P u → va_P D vwCl (w2 u) H1 → va_S A s.heap H1 locs1 → W p l e R s m args below meth c H1 locs1 cells slots Q (F0 m (pc + 3) ls (.int (f u) :: rest))) : W p l e R s m args below meth c H locs cells slots Q (F0 m pc ls st0) :=
  sr_goG (sr_rS C0 hK hP hZ hZs hM hk hkS hl hst hn hsz hfr hlo hW hdg hcs) hS (fun _ h => h) (fun u H1 l1 h1 h2 h3 _ _ => kk u H1 l1 h1 h2 h3)
theorem sr_gSv (C0 : CallFix p m c cc nL s args sr_ws own) (hK : va_K D vwCl tys s) (hP : va_P D vwCl w H) (hZ : sr_Zok A Z) (hZs : Z s H) (hM : sr_G l D tys Z A w y b n ret fr lo As P w2 (fun _ => none)) (hk : sr_ok y b n ret na) (hkS : Cond.static y ∈ sr_ws) (hl : Cond.methodLink own index y ∈ sr_ws) (hst : st0 = As.reverse ++ rest) (hn : As.length = na) (hsz : ls.size = nL) (hfr : fr + 1 ≤ R.frames) (hlo : 8 + (n + 11) + lo ≤ R.locals) (hW : (rest.map fun v => v.category).sum ≤ 8) (hdg : decode cc pc = .ok (.invokestatic index, 3)) (hcs : cells ≤ R.cells ∧ slots ≤ R.slots) (hS : va_S A s.heap H locs)
    (kk : ∀ (u : S) (H1 : Heap) (locs1 : List Loc), P u → va_P D vwCl (w2 u) H1 → va_S A s.heap H1 locs1 → W p l e R s m args below meth c H1 locs1 cells slots Q (F0 m (pc + 3) ls rest)) : W p l e R s m args below meth c H locs cells slots Q (F0 m pc ls st0) :=
  sr_goG (sr_rS C0 hK hP hZ hZs hM hk hkS hl hst hn hsz hfr hlo hW hdg hcs) hS (fun _ h => h) (fun u H1 l1 h1 h2 h3 _ _ => kk u H1 l1 h1 h2 h3)
theorem sr_gNi {host : String} (C0 : CallFix p m c cc nL s args sr_ws own) (hK : va_K D vwCl tys s) (hP : va_P D vwCl w H) (hZ : sr_Zok A Z) (hZs : Z s H) {f : S → Int32} (hM : sr_G l D tys Z A w y b n ret fr lo As P w2 (fun u => some (.int (f u)))) (hk : sr_ok y b n ret na) (hkS : Cond.static y ∈ sr_ws) (hl : va_Nw (.methodLinkNest own index y host) s) (hst : st0 = As.reverse ++ rest) (hn : As.length = na) (hsz : ls.size = nL) (hfr : fr + 1 ≤ R.frames) (hlo : 8 + (n + 11) + lo ≤ R.locals) (hW : (rest.map fun v => v.category).sum ≤ 8) (hdg : decode cc pc = .ok (.invokestatic index, 3)) (hcs : cells ≤ R.cells ∧ slots ≤ R.slots) (hS : va_S A s.heap H locs)
    (kk : ∀ (u : S) (H1 : Heap) (locs1 : List Loc), P u → va_P D vwCl (w2 u) H1 → va_S A s.heap H1 locs1 → W p l e R s m args below meth c H1 locs1 cells slots Q (F0 m (pc + 3) ls (.int (f u) :: rest))) : W p l e R s m args below meth c H locs cells slots Q (F0 m pc ls st0) :=
  sr_goG (sr_rSN C0 hK hP hZ hZs hM hk hkS hl hst hn hsz hfr hlo hW hdg hcs) hS (fun _ h => h) (fun u H1 l1 h1 h2 h3 _ _ => kk u H1 l1 h1 h2 h3)
end SRR

section SRX
variable {p : Program} {l : Launch} {e : Env} {R : Room} {s : State} {m : MethodId} {args : Array Value} {below : List Frame} {meth : Method} {c : Code} {H : Heap} {locs : List Loc} {cells slots : Nat} {Q : State → Prop}
variable {cc : ByteArray} {pc nL : Nat} {ls : Array Slot} {rest st0 : List Value} {D : va_G} {A : Nat → Prop} {tys : List (ClassId × FieldType)} {Z : State → Heap → Prop} {w : va_W} {own : String}
theorem sr_chi {x y : Int32} (h : x = y) (k : W p l e R s m args below meth c H locs cells slots Q (F0 m pc ls (.int y :: rest))) : W p l e R s m args below meth c H locs cells slots Q (F0 m pc ls (.int x :: rest)) := by rw [h]; exact k
theorem sr_chl {x y : Int64} (h : x = y) (k : W p l e R s m args below meth c H locs cells slots Q (F0 m pc ls (.long y :: rest))) : W p l e R s m args below meth c H locs cells slots Q (F0 m pc ls (.long x :: rest)) := by rw [h]; exact k
theorem sr_inc {i : Int32} {n : Nat} (h : (!(decide (i < 0) || decide (n ≤ i.toNatClampNeg))) = true) : vp_in i n := by
  intro q
  simp only [Bool.not_eq_true', Bool.or_eq_false_iff, decide_eq_false_iff_not] at h
  exact q.elim h.1 h.2
theorem sr_os {a : Nat → Nat} {b n k : Nat} (h : k < n) : sr_o a b n k = some (a (b + k)) := if_pos h
/-- a comparison of longs, and the branch behind it -/
theorem sr_cmp_lt (x y : Int64) : lg_cmp x y < 0 ↔ x < y := by
  unfold lg_cmp
  split <;> rename_i h1
  · exact ⟨fun q => absurd q (by decide), fun q => absurd q (by simp only [GT.gt, Int64.lt_iff_toInt_lt] at *; omega)⟩
  · split <;> rename_i h2
    · subst h2
      exact ⟨fun q => absurd q (by decide), fun q => absurd q (by simp only [GT.gt, Int64.lt_iff_toInt_lt] at *; omega)⟩
    · exact ⟨fun _ => by simp only [GT.gt, Int64.lt_iff_toInt_lt] at *; have h3 : ¬ x.toInt = y.toInt := fun q => h2 (Int64.toInt_inj.mp q); omega, fun _ => by decide⟩
theorem sr_cmp_gt (x y : Int64) : 0 < lg_cmp x y ↔ y < x := by
  unfold lg_cmp
  split <;> rename_i h1
  · exact ⟨fun _ => h1, fun _ => by decide⟩
  · split <;> exact ⟨fun q => absurd q (by decide), fun q => absurd q h1⟩
theorem sr_cmp_eq (x y : Int64) : lg_cmp x y = 0 ↔ x = y := by
  unfold lg_cmp
  split <;> rename_i h1
  · exact ⟨fun q => absurd q (by decide), fun q => absurd h1 (by subst q; simp only [GT.gt, Int64.lt_iff_toInt_lt]; omega)⟩
  · split <;> rename_i h2
    · exact ⟨fun _ => h2, fun _ => rfl⟩
    · exact ⟨fun q => absurd q (by decide), fun q => absurd q h2⟩
theorem sr_lclt {x y : Int64} (C0 : CallFix p m c cc nL s args sr_ws own) {off : Int} {tgt : Nat} (hdg : decode cc pc = .ok (.ifCond .lt off, 3)) (ht : (pc : Int) + off = (tgt : Int)) (kt : x < y → W p l e R s m args below meth c H locs cells slots Q (F0 m tgt ls rest)) (kf : ¬ x < y → W p l e R s m args below meth c H locs cells slots Q (F0 m (pc + 3) ls rest)) : W p l e R s m args below meth c H locs cells slots Q (F0 m pc ls (.int (lg_cmp x y) :: rest)) :=
  lv_if_lt C0.1 C0.2.1 hdg ht (fun q => kt ((sr_cmp_lt x y).mp q)) (fun q => kf (fun z => q ((sr_cmp_lt x y).mpr z)))
theorem sr_lcgt {x y : Int64} (C0 : CallFix p m c cc nL s args sr_ws own) {off : Int} {tgt : Nat} (hdg : decode cc pc = .ok (.ifCond .gt off, 3)) (ht : (pc : Int) + off = (tgt : Int)) (kt : y < x → W p l e R s m args below meth c H locs cells slots Q (F0 m tgt ls rest)) (kf : ¬ y < x → W p l e R s m args below meth c H locs cells slots Q (F0 m (pc + 3) ls rest)) : W p l e R s m args below meth c H locs cells slots Q (F0 m pc ls (.int (lg_cmp x y) :: rest)) :=
  lv_if_gt C0.1 C0.2.1 hdg ht (fun q => kt ((sr_cmp_gt x y).mp q)) (fun q => kf (fun z => q ((sr_cmp_gt x y).mpr z)))
theorem sr_lceq {x y : Int64} (C0 : CallFix p m c cc nL s args sr_ws own) {off : Int} {tgt : Nat} (hdg : decode cc pc = .ok (.ifCond .eq off, 3)) (ht : (pc : Int) + off = (tgt : Int)) (kt : x = y → W p l e R s m args below meth c H locs cells slots Q (F0 m tgt ls rest)) (kf : ¬ x = y → W p l e R s m args below meth c H locs cells slots Q (F0 m (pc + 3) ls rest)) : W p l e R s m args below meth c H locs cells slots Q (F0 m pc ls (.int (lg_cmp x y) :: rest)) :=
  lv_if_eq C0.1 C0.2.1 hdg ht (fun q => kt ((sr_cmp_eq x y).mp q)) (fun q => kf (fun z => q ((sr_cmp_eq x y).mpr z)))
theorem sr_ls2 {x k1 k2 : Int32} {a1 a2 o1 o2 dflt : Int} {len t1 t2 t3 : Nat} (C0 : CallFix p m c cc nL s args sr_ws own) (hdg : decode cc pc = .ok (.lookupswitch dflt #[(a1, o1), (a2, o2)], len)) (h1 : k1.toInt = a1) (h2 : k2.toInt = a2) (h3 : a1 < a2) (g1 : (pc : Int) + o1 = (t1 : Int)) (g2 : (pc : Int) + o2 = (t2 : Int)) (g3 : (pc : Int) + dflt = (t3 : Int))
    (ka : x = k1 → W p l e R s m args below meth c H locs cells slots Q (F0 m t1 ls rest)) (kb : ¬ x = k1 → x = k2 → W p l e R s m args below meth c H locs cells slots Q (F0 m t2 ls rest)) (kc : ¬ x = k1 → ¬ x = k2 → W p l e R s m args below meth c H locs cells slots Q (F0 m t3 ls rest)) : W p l e R s m args below meth c H locs cells slots Q (F0 m pc ls (.int x :: rest)) := by
  have hp : ((#[(a1, o1), (a2, o2)] : Array (Int × Int)).toList.zip ((#[(a1, o1), (a2, o2)] : Array (Int × Int)).toList.drop 1)).all (fun (a, next) => a.1 < next.1) = true := by simp [h3]
  by_cases e1 : x = k1
  · exact lv_lookup C0.1 C0.2.1 hdg hp (off := o1) (by rw [e1, h1]; simp [Op.lookupswitch.offset]) g1 (ka e1)
  · by_cases e2 : x = k2
    · exact lv_lookup C0.1 C0.2.1 hdg hp (off := o2) (by show Op.lookupswitch.offset [(a1, o1), (a2, o2)] dflt x.toInt = _; rw [lv_osw e1 h1, e2, h2]; simp [Op.lookupswitch.offset]) g2 (kb e1 e2)
    · exact lv_lookup C0.1 C0.2.1 hdg hp (off := dflt) (by show Op.lookupswitch.offset [(a1, o1), (a2, o2)] dflt x.toInt = _; rw [lv_osw e1 h1, lv_osw e2 h2]; simp [Op.lookupswitch.offset]) g3 (kc e1 e2)
/-- a static table -/
theorem sr_gst {C n d : String} {v : Value} {index : Nat} (C0 : CallFix p m c cc nL s args sr_ws own) (hZ : va_Z C n d v A s s.heap) (hS : va_S A s.heap H locs) (hlink : Cond.fieldLink own index C n d ∈ sr_ws) (hdg : decode cc pc = .ok (.getstatic index, 3))
    (kk : W p l e R s m args below meth c H locs cells slots Q (F0 m (pc + 3) ls (v :: rest))) : W p l e R s m args below meth c H locs cells slots Q (F0 m pc ls rest) :=
  va_gets C0.1 C0.2.1 hZ hS C0.2.2.2.1 (C0.2.2.2.2 _ hlink) (fun _ h => h) hdg kk
theorem sr_tld {t n k : Nat} {f : Nat → Int32} (C0 : CallFix p m c cc nL s args sr_ws own) (hT : va_T .int t n (fun j => .int (f j)) A s s.heap) (hS : va_S A s.heap H locs) {i : Int32} (hk : i.toNatClampNeg = k) (hin : vp_in i n) (hdg : decode cc pc = .ok (.iaload, 1))
    (kk : W p l e R s m args below meth c H locs cells slots Q (F0 m (pc + 1) ls (.int (f k) :: rest))) : W p l e R s m args below meth c H locs cells slots Q (F0 m pc ls (.int i :: .ref t :: rest)) :=
  va_ti C0.1 C0.2.1 hT hS hin (by rw [hk]) hdg kk
end SRX
end
section
/-! what a call of each method asks of the tables; the static tables -/
theorem sk_X0_init : sr_ok yX0_init cX0_init 1 none 0 := ⟨sw_153, sw_7, by decide +kernel⟩
theorem sk_X0_drawSlips : sr_ok yX0_drawSlips cX0_drawSlips 3 none 1 := ⟨sw_510, sw_7, by decide +kernel⟩
theorem sv_X0_drawSlips : sr_okV yX0_drawSlips := ⟨sw_508, sw_509⟩
theorem sk_X0_lotOfSixteen : sr_ok yX0_lotOfSixteen cX0_lotOfSixteen 1 (some .int) 0 := ⟨sw_516, sw_7, by decide +kernel⟩
theorem sv_X0_lotOfSixteen : sr_okV yX0_lotOfSixteen := ⟨sw_515, sp_12⟩
theorem sk_X1_init : sr_ok yX1_init cX1_init 3 none 2 := ⟨sw_112, sw_5, by decide +kernel⟩
theorem sk_X1_sixteenths : sr_ok yX1_sixteenths cX1_sixteenths 2 (some .int) 1 := ⟨sw_413, sw_5, by decide +kernel⟩
theorem sv_X1_sixteenths : sr_okV yX1_sixteenths := ⟨sw_411, sw_412⟩
theorem sk_X1_fractionOfAll : sr_ok yX1_fractionOfAll cX1_fractionOfAll 5 (some .int) 1 := ⟨sw_441, sw_5, by decide +kernel⟩
theorem sv_X1_fractionOfAll : sr_okV yX1_fractionOfAll := ⟨sw_439, sw_440⟩
theorem sk_X1_safest : sr_ok yX1_safest cX1_safest 4 (some .int) 2 := ⟨sw_449, sw_5, by decide +kernel⟩
theorem sv_X1_safest : sr_okV yX1_safest := ⟨sw_447, sw_448⟩
theorem sk_X1_guilty : sr_ok yX1_guilty cX1_guilty 5 (some .int) 2 := ⟨sw_501, sw_5, by decide +kernel⟩
theorem sv_X1_guilty : sr_okV yX1_guilty := ⟨sw_499, sw_500⟩
theorem sk_X1_slipAt : sr_ok yX1_slipAt cX1_slipAt 2 (some .int) 1 := ⟨sw_421, sw_5, by decide +kernel⟩
theorem sv_X1_slipAt : sr_okV yX1_slipAt := ⟨sw_420, sp_7⟩
theorem sk_X1_weigh : sr_ok yX1_weigh cX1_weigh 5 none 1 := ⟨sw_417, sw_5, by decide +kernel⟩
theorem sv_X1_weigh : sr_okV yX1_weigh := ⟨sw_416, sp_6⟩
theorem sk_X1_sharesAt : sr_ok yX1_sharesAt cX1_sharesAt 4 (some .int) 1 := ⟨sw_429, sw_5, by decide +kernel⟩
theorem sv_X1_sharesAt : sr_okV yX1_sharesAt := ⟨sw_428, sp_8⟩
theorem sk_X2_init : sr_ok yX2_init cX2_init 3 none 2 := ⟨sw_128, sw_6, by decide +kernel⟩
theorem sk_X2_search : sr_ok yX2_search cX2_search 8 none 1 := ⟨sw_466, sw_6, by decide +kernel⟩
theorem sv_X2_search : sr_okV yX2_search := ⟨sw_464, sw_465⟩
theorem sk_X2_weighPairs : sr_ok yX2_weighPairs cX2_weighPairs 6 none 1 := ⟨sw_473, sw_6, by decide +kernel⟩
theorem sv_X2_weighPairs : sr_okV yX2_weighPairs := ⟨sw_472, sp_9⟩
theorem sk_X2_areUnlike : sr_ok yX2_areUnlike cX2_areUnlike 6 (some .boolean) 5 := ⟨sw_478, sw_6, by decide +kernel⟩
theorem ss_X2_areUnlike : Cond.static yX2_areUnlike ∈ sr_ws := sw_477
theorem sk_X2_canChangeHands : sr_ok yX2_canChangeHands cX2_canChangeHands 7 (some .boolean) 4 := ⟨sw_488, sw_6, by decide +kernel⟩
theorem sv_X2_canChangeHands : sr_okV yX2_canChangeHands := ⟨sw_487, sp_10⟩
theorem sk_X2_consider : sr_ok yX2_consider cX2_consider 9 none 4 := ⟨sw_492, sw_6, by decide +kernel⟩
theorem sv_X2_consider : sr_okV yX2_consider := ⟨sw_491, sp_11⟩
theorem sk_X3_init : sr_ok yX3_init cX3_init 3 none 2 := ⟨sw_85, sw_4, by decide +kernel⟩
theorem sk_X3_lacksSomebody : sr_ok yX3_lacksSomebody cX3_lacksSomebody 5 (some .boolean) 0 := ⟨sw_341, sw_4, by decide +kernel⟩
theorem sv_X3_lacksSomebody : sr_okV yX3_lacksSomebody := ⟨sw_339, sw_340⟩
theorem sk_X3_unlikeOnes : sr_ok yX3_unlikeOnes cX3_unlikeOnes 6 (some .int) 0 := ⟨sw_580, sw_4, by decide +kernel⟩
theorem sv_X3_unlikeOnes : sr_okV yX3_unlikeOnes := ⟨sw_578, sw_579⟩
theorem sk_X3_offAt : sr_ok yX3_offAt cX3_offAt 4 (some .int) 1 := ⟨sw_345, sw_4, by decide +kernel⟩
theorem sv_X3_offAt : sr_okV yX3_offAt := ⟨sw_343, sw_344⟩
theorem sk_X3_meeting : sr_ok yX3_meeting cX3_meeting 3 (some .int) 2 := ⟨sw_361, sw_4, by decide +kernel⟩
theorem sv_X3_meeting : sr_okV yX3_meeting := ⟨sw_359, sw_360⟩
theorem sk_X3_bestMark : sr_ok yX3_bestMark cX3_bestMark 2 (some .int) 1 := ⟨sw_457, sw_4, by decide +kernel⟩
theorem sv_X3_bestMark : sr_okV yX3_bestMark := ⟨sw_455, sw_456⟩
theorem sk_X3_timeBy : sr_ok yX3_timeBy cX3_timeBy 5 (some .int) 1 := ⟨sw_389, sw_4, by decide +kernel⟩
theorem sv_X3_timeBy : sr_okV yX3_timeBy := ⟨sw_387, sw_388⟩
theorem sk_X3_carried : sr_ok yX3_carried cX3_carried 4 (some .int) 1 := ⟨sw_404, sw_4, by decide +kernel⟩
theorem sv_X3_carried : sr_okV yX3_carried := ⟨sw_402, sw_403⟩
theorem sk_X4_init : sr_ok yX4_init cX4_init 1 none 0 := ⟨sw_26, sw_2, by decide +kernel⟩
theorem sk_X4_append : sr_ok yX4_append cX4_append 2 (some .boolean) 1 := ⟨sw_220, sw_2, by decide +kernel⟩
theorem sv_X4_append : sr_okV yX4_append := ⟨sw_218, sw_219⟩
theorem sk_X4_dropLast : sr_ok yX4_dropLast cX4_dropLast 1 (some .boolean) 0 := ⟨sw_253, sw_2, by decide +kernel⟩
theorem sv_X4_dropLast : sr_okV yX4_dropLast := ⟨sw_251, sw_252⟩
theorem sk_X4_clear : sr_ok yX4_clear cX4_clear 2 (some .int) 0 := ⟨sw_245, sw_2, by decide +kernel⟩
theorem sv_X4_clear : sr_okV yX4_clear := ⟨sw_243, sw_244⟩
theorem sk_X4_figure : sr_ok yX4_figure cX4_figure 3 (some .int) 2 := ⟨sw_269, sw_2, by decide +kernel⟩
theorem sv_X4_figure : sr_okV yX4_figure := ⟨sw_267, sw_268⟩
theorem sk_X4_scan : sr_ok yX4_scan cX4_scan 4 none 0 := ⟨sw_224, sw_2, by decide +kernel⟩
theorem sv_X4_scan : sr_okV yX4_scan := ⟨sw_223, sp_0⟩
theorem sk_X4_canGoOn : sr_ok yX4_canGoOn cX4_canGoOn 4 (some .boolean) 1 := ⟨sw_228, sw_2, by decide +kernel⟩
theorem sv_X4_canGoOn : sr_okV yX4_canGoOn := ⟨sw_227, sp_1⟩
theorem sk_X4_readFigures : sr_ok yX4_readFigures cX4_readFigures 3 none 1 := ⟨sw_237, sw_2, by decide +kernel⟩
theorem sv_X4_readFigures : sr_okV yX4_readFigures := ⟨sw_236, sp_3⟩
theorem sk_X4_twoFigures : sr_ok yX4_twoFigures cX4_twoFigures 2 (some .int) 1 := ⟨sw_233, sw_2, by decide +kernel⟩
theorem sv_X4_twoFigures : sr_okV yX4_twoFigures := ⟨sw_232, sp_2⟩
theorem sk_X5_init : sr_ok yX5_init cX5_init 1 none 0 := ⟨sw_168, sw_8, by decide +kernel⟩
theorem sk_X5_isLost : sr_ok yX5_isLost cX5_isLost 2 (some .boolean) 1 := ⟨sw_317, sw_8, by decide +kernel⟩
theorem sv_X5_isLost : sr_okV yX5_isLost := ⟨sw_315, sw_316⟩
theorem sk_X5_found : sr_ok yX5_found cX5_found 2 (some .int) 1 := ⟨sw_321, sw_8, by decide +kernel⟩
theorem sv_X5_found : sr_okV yX5_found := ⟨sw_319, sw_320⟩
theorem sk_X5_renew : sr_ok yX5_renew cX5_renew 4 none 3 := ⟨sw_533, sw_8, by decide +kernel⟩
theorem sv_X5_renew : sr_okV yX5_renew := ⟨sw_531, sw_532⟩
theorem sk_X5_check : sr_ok yX5_check cX5_check 4 (some .int) 3 := ⟨sw_546, sw_8, by decide +kernel⟩
theorem sv_X5_check : sr_okV yX5_check := ⟨sw_544, sw_545⟩
theorem sk_X5_holds : sr_ok yX5_holds cX5_holds 4 (some .boolean) 3 := ⟨sw_565, sw_8, by decide +kernel⟩
theorem sv_X5_holds : sr_okV yX5_holds := ⟨sw_563, sw_564⟩
theorem sk_X5_put : sr_ok yX5_put cX5_put 4 none 3 := ⟨sw_552, sw_8, by decide +kernel⟩
theorem sv_X5_put : sr_okV yX5_put := ⟨sw_550, sw_551⟩
theorem sk_X6_init : sr_ok yX6_init cX6_init 2 none 1 := ⟨sw_67, sw_3, by decide +kernel⟩
theorem sk_X6_setRule : sr_ok yX6_setRule cX6_setRule 5 (some .int) 2 := ⟨sw_291, sw_3, by decide +kernel⟩
theorem sv_X6_setRule : sr_okV yX6_setRule := ⟨sw_289, sw_290⟩
theorem sk_X6_pace : sr_ok yX6_pace cX6_pace 3 (some .int) 2 := ⟨sw_369, sw_3, by decide +kernel⟩
theorem sv_X6_pace : sr_okV yX6_pace := ⟨sw_367, sw_368⟩
theorem sk_X6_span : sr_ok yX6_span cX6_span 5 (some .int) 3 := ⟨sw_332, sw_3, by decide +kernel⟩
theorem sv_X6_span : sr_okV yX6_span := ⟨sw_330, sw_331⟩
theorem sk_X6_untilNext : sr_ok yX6_untilNext cX6_untilNext 5 (some .int) 4 := ⟨sw_349, sw_3, by decide +kernel⟩
theorem sv_X6_untilNext : sr_okV yX6_untilNext := ⟨sw_347, sw_348⟩
theorem sk_X6_headroom : sr_ok yX6_headroom cX6_headroom 7 (some .int) 5 := ⟨sw_373, sw_3, by decide +kernel⟩
theorem sv_X6_headroom : sr_okV yX6_headroom := ⟨sw_372, sp_5⟩
theorem sk_X6_meeting : sr_ok yX6_meeting cX6_meeting 8 (some .int) 5 := ⟨sw_365, sw_3, by decide +kernel⟩
theorem sv_X6_meeting : sr_okV yX6_meeting := ⟨sw_363, sw_364⟩
theorem sk_X6_farthest : sr_ok yX6_farthest cX6_farthest 8 (some .int) 4 := ⟨sw_425, sw_3, by decide +kernel⟩
theorem sv_X6_farthest : sr_okV yX6_farthest := ⟨sw_423, sw_424⟩
theorem sk_X6_leg : sr_ok yX6_leg cX6_leg 7 (some .int) 5 := ⟨sw_393, sw_3, by decide +kernel⟩
theorem sv_X6_leg : sr_okV yX6_leg := ⟨sw_391, sw_392⟩
theorem sk_X6_kindOf : sr_ok yX6_kindOf cX6_kindOf 2 (some .int) 1 := ⟨sw_381, sw_3, by decide +kernel⟩
theorem sv_X6_kindOf : sr_okV yX6_kindOf := ⟨sw_379, sw_380⟩
theorem sk_X7_init : sr_ok yX7_init cX7_init 1 none 0 := ⟨sw_18, sw_1, by decide +kernel⟩
theorem sk_X7_type : sr_ok yX7_type cX7_type 2 (some .int) 1 := ⟨sw_213, sw_1, by decide +kernel⟩
theorem sv_X7_type : sr_okV yX7_type := ⟨sw_211, sw_212⟩
theorem sk_X7_wipe : sr_ok yX7_wipe cX7_wipe 1 (some .int) 0 := ⟨sw_241, sw_1, by decide +kernel⟩
theorem sv_X7_wipe : sr_okV yX7_wipe := ⟨sw_239, sw_240⟩
theorem sk_X7_undo : sr_ok yX7_undo cX7_undo 1 (some .int) 0 := ⟨sw_249, sw_1, by decide +kernel⟩
theorem sv_X7_undo : sr_okV yX7_undo := ⟨sw_247, sw_248⟩
theorem sk_X7_fault : sr_ok yX7_fault cX7_fault 1 (some .int) 0 := ⟨sw_257, sw_1, by decide +kernel⟩
theorem sv_X7_fault : sr_okV yX7_fault := ⟨sw_255, sw_256⟩
theorem sk_X7_runner : sr_ok yX7_runner cX7_runner 3 (some .int) 2 := ⟨sw_261, sw_1, by decide +kernel⟩
theorem sv_X7_runner : sr_okV yX7_runner := ⟨sw_259, sw_260⟩
theorem sk_X7_runs : sr_ok yX7_runs cX7_runs 3 (some .int) 2 := ⟨sw_273, sw_1, by decide +kernel⟩
theorem sv_X7_runs : sr_okV yX7_runs := ⟨sw_271, sw_272⟩
theorem sk_X7_set : sr_ok yX7_set cX7_set 3 (some .int) 2 := ⟨sw_283, sw_1, by decide +kernel⟩
theorem sv_X7_set : sr_okV yX7_set := ⟨sw_281, sw_282⟩
theorem sk_X7_mark : sr_ok yX7_mark cX7_mark 3 (some .int) 2 := ⟨sw_296, sw_1, by decide +kernel⟩
theorem sv_X7_mark : sr_okV yX7_mark := ⟨sw_294, sw_295⟩
theorem sk_X7_slip : sr_ok yX7_slip cX7_slip 3 (some .int) 2 := ⟨sw_306, sw_1, by decide +kernel⟩
theorem sv_X7_slip : sr_okV yX7_slip := ⟨sw_304, sw_305⟩
theorem sk_X7_read : sr_ok yX7_read cX7_read 5 (some .int) 1 := ⟨sw_310, sw_1, by decide +kernel⟩
theorem sv_X7_read : sr_okV yX7_read := ⟨sw_308, sw_309⟩
theorem sk_X7_takes : sr_ok yX7_takes cX7_takes 4 (some .int) 3 := ⟨sw_328, sw_1, by decide +kernel⟩
theorem sv_X7_takes : sr_okV yX7_takes := ⟨sw_326, sw_327⟩
theorem sk_X7_when : sr_ok yX7_when cX7_when 4 (some .int) 2 := ⟨sw_337, sw_1, by decide +kernel⟩
theorem sv_X7_when : sr_okV yX7_when := ⟨sw_335, sw_336⟩
theorem sk_X7_meet : sr_ok yX7_meet cX7_meet 2 (some .int) 1 := ⟨sw_357, sw_1, by decide +kernel⟩
theorem sv_X7_meet : sr_okV yX7_meet := ⟨sw_355, sw_356⟩
theorem sk_X7_kind : sr_ok yX7_kind cX7_kind 2 (some .int) 1 := ⟨sw_377, sw_1, by decide +kernel⟩
theorem sv_X7_kind : sr_okV yX7_kind := ⟨sw_375, sw_376⟩
theorem sk_X7_time : sr_ok yX7_time cX7_time 1 (some .int) 0 := ⟨sw_385, sw_1, by decide +kernel⟩
theorem sv_X7_time : sr_okV yX7_time := ⟨sw_383, sw_384⟩
theorem sk_X7_carries : sr_ok yX7_carries cX7_carries 2 (some .int) 1 := ⟨sw_400, sw_1, by decide +kernel⟩
theorem sv_X7_carries : sr_okV yX7_carries := ⟨sw_398, sw_399⟩
theorem sk_X7_chance : sr_ok yX7_chance cX7_chance 2 (some .int) 1 := ⟨sw_409, sw_1, by decide +kernel⟩
theorem sv_X7_chance : sr_okV yX7_chance := ⟨sw_407, sw_408⟩
theorem sk_X7_all : sr_ok yX7_all cX7_all 2 (some .long) 1 := ⟨sw_435, sw_1, by decide +kernel⟩
theorem sv_X7_all : sr_okV yX7_all := ⟨sw_433, sw_434⟩
theorem sk_X7_safe : sr_ok yX7_safe cX7_safe 3 (some .int) 2 := ⟨sw_445, sw_1, by decide +kernel⟩
theorem sv_X7_safe : sr_okV yX7_safe := ⟨sw_443, sw_444⟩
theorem sk_X7_best : sr_ok yX7_best cX7_best 2 (some .int) 1 := ⟨sw_453, sw_1, by decide +kernel⟩
theorem sv_X7_best : sr_okV yX7_best := ⟨sw_451, sw_452⟩
theorem sk_X7_order : sr_ok yX7_order cX7_order 3 (some .int) 2 := ⟨sw_462, sw_1, by decide +kernel⟩
theorem sv_X7_order : sr_okV yX7_order := ⟨sw_460, sw_461⟩
theorem sk_X7_blame : sr_ok yX7_blame cX7_blame 3 (some .int) 2 := ⟨sw_497, sw_1, by decide +kernel⟩
theorem sv_X7_blame : sr_okV yX7_blame := ⟨sw_495, sw_496⟩
theorem sk_X7_lot : sr_ok yX7_lot cX7_lot 2 (some .int) 1 := ⟨sw_506, sw_1, by decide +kernel⟩
theorem sv_X7_lot : sr_okV yX7_lot := ⟨sw_504, sw_505⟩
theorem sk_X7_races : sr_ok yX7_races cX7_races 7 (some .int) 3 := ⟨sw_521, sw_1, by decide +kernel⟩
theorem sv_X7_races : sr_okV yX7_races := ⟨sw_519, sw_520⟩
theorem sk_X7_sheet : sr_ok yX7_sheet cX7_sheet 4 (some .int) 3 := ⟨sw_526, sw_1, by decide +kernel⟩
theorem sv_X7_sheet : sr_okV yX7_sheet := ⟨sw_524, sw_525⟩
theorem sk_X7_lose : sr_ok yX7_lose cX7_lose 2 (some .int) 1 := ⟨sw_538, sw_1, by decide +kernel⟩
theorem sv_X7_lose : sr_okV yX7_lose := ⟨sw_536, sw_537⟩
theorem sk_X7_lay : sr_ok yX7_lay cX7_lay 6 (some .int) 4 := ⟨sw_542, sw_1, by decide +kernel⟩
theorem sv_X7_lay : sr_okV yX7_lay := ⟨sw_540, sw_541⟩
theorem sk_X7_get : sr_ok yX7_get cX7_get 5 (some .int) 3 := ⟨sw_556, sw_1, by decide +kernel⟩
theorem sv_X7_get : sr_okV yX7_get := ⟨sw_554, sw_555⟩
theorem sk_X7_copy : sr_ok yX7_copy cX7_copy 6 (some .int) 5 := ⟨sw_561, sw_1, by decide +kernel⟩
theorem sv_X7_copy : sr_okV yX7_copy := ⟨sw_559, sw_560⟩
theorem sk_X7_write : sr_ok yX7_write cX7_write 4 (some .int) 1 := ⟨sw_572, sw_1, by decide +kernel⟩
theorem sv_X7_write : sr_okV yX7_write := ⟨sw_570, sw_571⟩
theorem sk_X7_count : sr_ok yX7_count cX7_count 2 (some .int) 1 := ⟨sw_576, sw_1, by decide +kernel⟩
theorem sv_X7_count : sr_okV yX7_count := ⟨sw_574, sw_575⟩
theorem sk_X7_digest : sr_ok yX7_digest cX7_digest 5 (some .long) 0 := ⟨sw_585, sw_1, by decide +kernel⟩
theorem sv_X7_digest : sr_okV yX7_digest := ⟨sw_583, sw_584⟩
theorem sk_X7_outside : sr_ok yX7_outside cX7_outside 3 (some .boolean) 3 := ⟨sw_216, sw_1, by decide +kernel⟩
theorem ss_X7_outside : Cond.static yX7_outside ∈ sr_ws := sw_215
theorem sk_X7_isNobody : sr_ok yX7_isNobody cX7_isNobody 2 (some .boolean) 1 := ⟨sw_265, sw_1, by decide +kernel⟩
theorem sv_X7_isNobody : sr_okV yX7_isNobody := ⟨sw_264, sp_4⟩
theorem sk_X7_isNoStretch : sr_ok yX7_isNoStretch cX7_isNoStretch 1 (some .boolean) 1 := ⟨sw_276, sw_1, by decide +kernel⟩
theorem ss_X7_isNoStretch : Cond.static yX7_isNoStretch ∈ sr_ws := sw_275
theorem sk_X7_isNoChange : sr_ok yX7_isNoChange cX7_isNoChange 1 (some .boolean) 1 := ⟨sw_299, sw_1, by decide +kernel⟩
theorem ss_X7_isNoChange : Cond.static yX7_isNoChange ∈ sr_ws := sw_298
theorem sk_X7_isNoMark : sr_ok yX7_isNoMark cX7_isNoMark 1 (some .boolean) 1 := ⟨sw_302, sw_1, by decide +kernel⟩
theorem ss_X7_isNoMark : Cond.static yX7_isNoMark ∈ sr_ws := sw_301
theorem sk_X7_isNoSheet : sr_ok yX7_isNoSheet cX7_isNoSheet 1 (some .boolean) 1 := ⟨sw_313, sw_1, by decide +kernel⟩
theorem ss_X7_isNoSheet : Cond.static yX7_isNoSheet ∈ sr_ws := sw_312
theorem sk_X7_isNoForm : sr_ok yX7_isNoForm cX7_isNoForm 1 (some .boolean) 1 := ⟨sw_529, sw_1, by decide +kernel⟩
theorem ss_X7_isNoForm : Cond.static yX7_isNoForm ∈ sr_ws := sw_528
theorem sk_X7_swap : sr_ok yX7_swap cX7_swap 4 (some .int) 3 := ⟨sw_279, sw_1, by decide +kernel⟩
theorem ss_X7_swap : Cond.static yX7_swap ∈ sr_ws := sw_278
theorem sk_X8_init : sr_ok yX8_init cX8_init 2 none 0 := ⟨sw_608, sw_9, by decide +kernel⟩
theorem sk_X8_in : sr_ok yX8_in cX8_in 6 (some .boolean) 3 := ⟨sw_672, sw_9, by decide +kernel⟩
theorem ss_X8_in : Cond.static yX8_in ∈ sr_ws := sw_671
theorem sk_X8_no : sr_ok yX8_no cX8_no 1 (some .long) 1 := ⟨sw_876, sw_9, by decide +kernel⟩
theorem ss_X8_no : Cond.static yX8_no ∈ sr_ws := sw_875
theorem sk_X8_isTwo : sr_ok yX8_isTwo cX8_isTwo 1 (some .boolean) 1 := ⟨sw_794, sw_9, by decide +kernel⟩
theorem ss_X8_isTwo : Cond.static yX8_isTwo ∈ sr_ws := sw_793
theorem sk_X8_lesser : sr_ok yX8_lesser cX8_lesser 2 (some .int) 2 := ⟨sw_787, sw_9, by decide +kernel⟩
theorem ss_X8_lesser : Cond.static yX8_lesser ∈ sr_ws := sw_786
theorem sk_X8_met : sr_ok yX8_met cX8_met 2 (some .int) 1 := ⟨sw_677, sw_9, by decide +kernel⟩
theorem sv_X8_met : sr_okV yX8_met := ⟨sw_676, sp_13⟩
theorem sk_X8_isSheet : sr_ok yX8_isSheet cX8_isSheet 1 (some .boolean) 1 := ⟨sw_668, sw_9, by decide +kernel⟩
theorem ss_X8_isSheet : Cond.static yX8_isSheet ∈ sr_ws := sw_667
theorem sk_X8_sheet : sr_ok yX8_sheet cX8_sheet 5 (some .int) 3 := ⟨sw_665, sw_9, by decide +kernel⟩
theorem sv_X8_sheet : sr_okV yX8_sheet := ⟨sw_663, sw_664⟩
theorem sk_X8_lose : sr_ok yX8_lose cX8_lose 2 (some .int) 1 := ⟨sw_681, sw_9, by decide +kernel⟩
theorem sv_X8_lose : sr_okV yX8_lose := ⟨sw_679, sw_680⟩
theorem sk_X8_lacks : sr_ok yX8_lacks cX8_lacks 4 (some .int) 3 := ⟨sw_689, sw_9, by decide +kernel⟩
theorem sv_X8_lacks : sr_okV yX8_lacks := ⟨sw_688, sp_14⟩
theorem sk_X8_cut : sr_ok yX8_cut cX8_cut 2 (some .int) 2 := ⟨sw_692, sw_9, by decide +kernel⟩
theorem ss_X8_cut : Cond.static yX8_cut ∈ sr_ws := sw_691
theorem sk_X8_lay : sr_ok yX8_lay cX8_lay 6 (some .int) 4 := ⟨sw_685, sw_9, by decide +kernel⟩
theorem sv_X8_lay : sr_okV yX8_lay := ⟨sw_683, sw_684⟩
theorem sk_X8_get : sr_ok yX8_get cX8_get 4 (some .int) 3 := ⟨sw_696, sw_9, by decide +kernel⟩
theorem sv_X8_get : sr_okV yX8_get := ⟨sw_694, sw_695⟩
theorem sk_X8_copy : sr_ok yX8_copy cX8_copy 7 (some .int) 5 := ⟨sw_701, sw_9, by decide +kernel⟩
theorem sv_X8_copy : sr_okV yX8_copy := ⟨sw_699, sw_700⟩
theorem sk_X8_type : sr_ok yX8_type cX8_type 2 (some .int) 1 := ⟨sw_705, sw_9, by decide +kernel⟩
theorem sv_X8_type : sr_okV yX8_type := ⟨sw_703, sw_704⟩
theorem sk_X8_wipe : sr_ok yX8_wipe cX8_wipe 2 (some .int) 0 := ⟨sw_710, sw_9, by decide +kernel⟩
theorem sv_X8_wipe : sr_okV yX8_wipe := ⟨sw_708, sw_709⟩
theorem sk_X8_undo : sr_ok yX8_undo cX8_undo 1 (some .int) 0 := ⟨sw_714, sw_9, by decide +kernel⟩
theorem sv_X8_undo : sr_okV yX8_undo := ⟨sw_712, sw_713⟩
theorem sk_X8_here : sr_ok yX8_here cX8_here 1 (some .int) 0 := ⟨sw_730, sw_9, by decide +kernel⟩
theorem sv_X8_here : sr_okV yX8_here := ⟨sw_729, sp_17⟩
theorem sk_X8_nobody : sr_ok yX8_nobody cX8_nobody 1 (some .int) 0 := ⟨sw_735, sw_9, by decide +kernel⟩
theorem sv_X8_nobody : sr_okV yX8_nobody := ⟨sw_734, sp_18⟩
theorem sk_X8_readsPart : sr_ok yX8_readsPart cX8_readsPart 5 (some .boolean) 0 := ⟨sw_726, sw_9, by decide +kernel⟩
theorem sv_X8_readsPart : sr_okV yX8_readsPart := ⟨sw_725, sp_16⟩
theorem sk_X8_reads : sr_ok yX8_reads cX8_reads 2 (some .int) 0 := ⟨sw_722, sw_9, by decide +kernel⟩
theorem sv_X8_reads : sr_okV yX8_reads := ⟨sw_721, sp_15⟩
theorem sk_X8_fault : sr_ok yX8_fault cX8_fault 1 (some .int) 0 := ⟨sw_718, sw_9, by decide +kernel⟩
theorem sv_X8_fault : sr_okV yX8_fault := ⟨sw_716, sw_717⟩
theorem sk_X8_runner : sr_ok yX8_runner cX8_runner 3 (some .int) 2 := ⟨sw_739, sw_9, by decide +kernel⟩
theorem sv_X8_runner : sr_okV yX8_runner := ⟨sw_737, sw_738⟩
theorem sk_X8_isStretch : sr_ok yX8_isStretch cX8_isStretch 1 (some .boolean) 1 := ⟨sw_746, sw_9, by decide +kernel⟩
theorem ss_X8_isStretch : Cond.static yX8_isStretch ∈ sr_ws := sw_745
theorem sk_X8_isChange : sr_ok yX8_isChange cX8_isChange 1 (some .boolean) 1 := ⟨sw_763, sw_9, by decide +kernel⟩
theorem ss_X8_isChange : Cond.static yX8_isChange ∈ sr_ws := sw_762
theorem sk_X8_runs : sr_ok yX8_runs cX8_runs 4 (some .int) 2 := ⟨sw_743, sw_9, by decide +kernel⟩
theorem sv_X8_runs : sr_okV yX8_runs := ⟨sw_741, sw_742⟩
theorem sk_X8_most : sr_ok yX8_most cX8_most 1 (some .int) 1 := ⟨sw_756, sw_9, by decide +kernel⟩
theorem ss_X8_most : Cond.static yX8_most ∈ sr_ws := sw_755
theorem sk_X8_set : sr_ok yX8_set cX8_set 4 (some .int) 2 := ⟨sw_751, sw_9, by decide +kernel⟩
theorem sv_X8_set : sr_okV yX8_set := ⟨sw_749, sw_750⟩
theorem sk_X8_mark : sr_ok yX8_mark cX8_mark 4 (some .int) 2 := ⟨sw_760, sw_9, by decide +kernel⟩
theorem sv_X8_mark : sr_okV yX8_mark := ⟨sw_758, sw_759⟩
theorem sk_X8_slip : sr_ok yX8_slip cX8_slip 4 (some .int) 2 := ⟨sw_768, sw_9, by decide +kernel⟩
theorem sv_X8_slip : sr_okV yX8_slip := ⟨sw_766, sw_767⟩
theorem sk_X8_read : sr_ok yX8_read cX8_read 3 (some .int) 1 := ⟨sw_774, sw_9, by decide +kernel⟩
theorem sv_X8_read : sr_okV yX8_read := ⟨sw_772, sw_773⟩
theorem sk_X8_areThere : sr_ok yX8_areThere cX8_areThere 3 (some .boolean) 0 := ⟨sw_798, sw_9, by decide +kernel⟩
theorem sv_X8_areThere : sr_okV yX8_areThere := ⟨sw_797, sp_20⟩
theorem sk_X8_takesOf : sr_ok yX8_takesOf cX8_takesOf 6 (some .int) 3 := ⟨sw_784, sw_9, by decide +kernel⟩
theorem sv_X8_takesOf : sr_okV yX8_takesOf := ⟨sw_783, sp_19⟩
theorem sk_X8_takes : sr_ok yX8_takes cX8_takes 4 (some .int) 3 := ⟨sw_779, sw_9, by decide +kernel⟩
theorem sv_X8_takes : sr_okV yX8_takes := ⟨sw_777, sw_778⟩
theorem sk_X8_delay : sr_ok yX8_delay cX8_delay 6 (some .int) 4 := ⟨sw_806, sw_9, by decide +kernel⟩
theorem sv_X8_delay : sr_okV yX8_delay := ⟨sw_805, sp_22⟩
theorem sk_X8_meetBy : sr_ok yX8_meetBy cX8_meetBy 8 (some .int) 5 := ⟨sw_822, sw_9, by decide +kernel⟩
theorem sv_X8_meetBy : sr_okV yX8_meetBy := ⟨sw_821, sp_25⟩
theorem sk_X8_meetOf : sr_ok yX8_meetOf cX8_meetOf 4 (some .int) 3 := ⟨sw_818, sw_9, by decide +kernel⟩
theorem sv_X8_meetOf : sr_okV yX8_meetOf := ⟨sw_817, sp_24⟩
theorem sk_X8_goesOff : sr_ok yX8_goesOff cX8_goesOff 4 (some .int) 1 := ⟨sw_802, sw_9, by decide +kernel⟩
theorem sv_X8_goesOff : sr_okV yX8_goesOff := ⟨sw_801, sp_21⟩
theorem sk_X8_when : sr_ok yX8_when cX8_when 3 (some .int) 2 := ⟨sw_791, sw_9, by decide +kernel⟩
theorem sv_X8_when : sr_okV yX8_when := ⟨sw_789, sw_790⟩
theorem sk_X8_meetNow : sr_ok yX8_meetNow cX8_meetNow 2 (some .int) 1 := ⟨sw_814, sw_9, by decide +kernel⟩
theorem sv_X8_meetNow : sr_okV yX8_meetNow := ⟨sw_813, sp_23⟩
theorem sk_X8_meet : sr_ok yX8_meet cX8_meet 2 (some .int) 1 := ⟨sw_810, sw_9, by decide +kernel⟩
theorem sv_X8_meet : sr_okV yX8_meet := ⟨sw_808, sw_809⟩
theorem sk_X8_kindNow : sr_ok yX8_kindNow cX8_kindNow 3 (some .int) 1 := ⟨sw_830, sw_9, by decide +kernel⟩
theorem sv_X8_kindNow : sr_okV yX8_kindNow := ⟨sw_829, sp_26⟩
theorem sk_X8_kind : sr_ok yX8_kind cX8_kind 2 (some .int) 1 := ⟨sw_826, sw_9, by decide +kernel⟩
theorem sv_X8_kind : sr_okV yX8_kind := ⟨sw_824, sw_825⟩
theorem sk_X8_timeOf : sr_ok yX8_timeOf cX8_timeOf 4 (some .int) 0 := ⟨sw_838, sw_9, by decide +kernel⟩
theorem sv_X8_timeOf : sr_okV yX8_timeOf := ⟨sw_837, sp_27⟩
theorem sk_X8_time : sr_ok yX8_time cX8_time 1 (some .int) 0 := ⟨sw_834, sw_9, by decide +kernel⟩
theorem sv_X8_time : sr_okV yX8_time := ⟨sw_832, sw_833⟩
theorem sk_X8_carriesOf : sr_ok yX8_carriesOf cX8_carriesOf 4 (some .int) 1 := ⟨sw_850, sw_9, by decide +kernel⟩
theorem sv_X8_carriesOf : sr_okV yX8_carriesOf := ⟨sw_849, sp_29⟩
theorem sk_X8_carriesNow : sr_ok yX8_carriesNow cX8_carriesNow 2 (some .int) 1 := ⟨sw_846, sw_9, by decide +kernel⟩
theorem sv_X8_carriesNow : sr_okV yX8_carriesNow := ⟨sw_845, sp_28⟩
theorem sk_X8_carries : sr_ok yX8_carries cX8_carries 2 (some .int) 1 := ⟨sw_842, sw_9, by decide +kernel⟩
theorem sv_X8_carries : sr_okV yX8_carries := ⟨sw_840, sw_841⟩
theorem sk_X8_oddsOf : sr_ok yX8_oddsOf cX8_oddsOf 1 (some .int) 1 := ⟨sw_865, sw_9, by decide +kernel⟩
theorem ss_X8_oddsOf : Cond.static yX8_oddsOf ∈ sr_ws := sw_864
theorem sk_X8_chanceBy : sr_ok yX8_chanceBy cX8_chanceBy 5 (some .int) 2 := ⟨sw_862, sw_9, by decide +kernel⟩
theorem sv_X8_chanceBy : sr_okV yX8_chanceBy := ⟨sw_861, sp_31⟩
theorem sk_X8_chanceNow : sr_ok yX8_chanceNow cX8_chanceNow 2 (some .int) 1 := ⟨sw_858, sw_9, by decide +kernel⟩
theorem sv_X8_chanceNow : sr_okV yX8_chanceNow := ⟨sw_857, sp_30⟩
theorem sk_X8_chance : sr_ok yX8_chance cX8_chance 2 (some .int) 1 := ⟨sw_854, sw_9, by decide +kernel⟩
theorem sv_X8_chance : sr_okV yX8_chance := ⟨sw_852, sw_853⟩
theorem sk_X8_part : sr_ok yX8_part cX8_part 11 (some .long) 3 := ⟨sw_881, sw_9, by decide +kernel⟩
theorem ss_X8_part : Cond.static yX8_part ∈ sr_ws := sw_880
theorem sk_X8_allNow : sr_ok yX8_allNow cX8_allNow 5 (some .long) 1 := ⟨sw_873, sw_9, by decide +kernel⟩
theorem sv_X8_allNow : sr_okV yX8_allNow := ⟨sw_872, sp_32⟩
theorem sk_X8_all : sr_ok yX8_all cX8_all 2 (some .long) 1 := ⟨sw_869, sw_9, by decide +kernel⟩
theorem sv_X8_all : sr_okV yX8_all := ⟨sw_867, sw_868⟩
theorem sk_X8_safeNow : sr_ok yX8_safeNow cX8_safeNow 4 (some .int) 2 := ⟨sw_890, sw_9, by decide +kernel⟩
theorem sv_X8_safeNow : sr_okV yX8_safeNow := ⟨sw_889, sp_33⟩
theorem sk_X8_safe : sr_ok yX8_safe cX8_safe 3 (some .int) 2 := ⟨sw_885, sw_9, by decide +kernel⟩
theorem sv_X8_safe : sr_okV yX8_safe := ⟨sw_883, sw_884⟩
theorem sk_X8_lost : sr_ok yX8_lost cX8_lost 2 (some .int) 1 := ⟨sw_906, sw_9, by decide +kernel⟩
theorem sv_X8_lost : sr_okV yX8_lost := ⟨sw_905, sp_36⟩
theorem sk_X8_bestBy : sr_ok yX8_bestBy cX8_bestBy 10 (some .int) 4 := ⟨sw_902, sw_9, by decide +kernel⟩
theorem sv_X8_bestBy : sr_okV yX8_bestBy := ⟨sw_901, sp_35⟩
theorem sk_X8_bestNow : sr_ok yX8_bestNow cX8_bestNow 2 (some .int) 1 := ⟨sw_898, sw_9, by decide +kernel⟩
theorem sv_X8_bestNow : sr_okV yX8_bestNow := ⟨sw_897, sp_34⟩
theorem sk_X8_best : sr_ok yX8_best cX8_best 2 (some .int) 1 := ⟨sw_894, sw_9, by decide +kernel⟩
theorem sv_X8_best : sr_okV yX8_best := ⟨sw_892, sw_893⟩
theorem sk_X8_hands : sr_ok yX8_hands cX8_hands 5 (some .boolean) 0 := ⟨sw_924, sw_9, by decide +kernel⟩
theorem sv_X8_hands : sr_okV yX8_hands := ⟨sw_923, sp_39⟩
theorem sk_X8_looks : sr_ok yX8_looks cX8_looks 3 none 0 := ⟨sw_920, sw_9, by decide +kernel⟩
theorem sv_X8_looks : sr_okV yX8_looks := ⟨sw_919, sp_38⟩
theorem sk_X8_orderOf : sr_ok yX8_orderOf cX8_orderOf 9 (some .int) 2 := ⟨sw_916, sw_9, by decide +kernel⟩
theorem sv_X8_orderOf : sr_okV yX8_orderOf := ⟨sw_915, sp_37⟩
theorem sk_X8_order : sr_ok yX8_order cX8_order 3 (some .int) 2 := ⟨sw_910, sw_9, by decide +kernel⟩
theorem sv_X8_order : sr_okV yX8_order := ⟨sw_908, sw_909⟩
theorem sk_X8_blameNow : sr_ok yX8_blameNow cX8_blameNow 5 (some .int) 2 := ⟨sw_932, sw_9, by decide +kernel⟩
theorem sv_X8_blameNow : sr_okV yX8_blameNow := ⟨sw_931, sp_40⟩
theorem sk_X8_blame : sr_ok yX8_blame cX8_blame 3 (some .int) 2 := ⟨sw_928, sw_9, by decide +kernel⟩
theorem sv_X8_blame : sr_okV yX8_blame := ⟨sw_926, sw_927⟩
theorem sk_X8_slipByLot : sr_ok yX8_slipByLot cX8_slipByLot 3 (some .int) 0 := ⟨sw_944, sw_9, by decide +kernel⟩
theorem sv_X8_slipByLot : sr_okV yX8_slipByLot := ⟨sw_943, sp_42⟩
theorem sk_X8_raceOn : sr_ok yX8_raceOn cX8_raceOn 6 (some .int) 0 := ⟨sw_940, sw_9, by decide +kernel⟩
theorem sv_X8_raceOn : sr_okV yX8_raceOn := ⟨sw_939, sp_41⟩
theorem sk_X8_lot : sr_ok yX8_lot cX8_lot 2 (some .int) 1 := ⟨sw_936, sw_9, by decide +kernel⟩
theorem sv_X8_lot : sr_okV yX8_lot := ⟨sw_934, sw_935⟩
theorem sk_X8_racesNow : sr_ok yX8_racesNow cX8_racesNow 6 (some .int) 3 := ⟨sw_954, sw_9, by decide +kernel⟩
theorem sv_X8_racesNow : sr_okV yX8_racesNow := ⟨sw_953, sp_43⟩
theorem sk_X8_races : sr_ok yX8_races cX8_races 4 (some .int) 3 := ⟨sw_949, sw_9, by decide +kernel⟩
theorem sv_X8_races : sr_okV yX8_races := ⟨sw_947, sw_948⟩
theorem sk_X8_write : sr_ok yX8_write cX8_write 4 (some .int) 1 := ⟨sw_958, sw_9, by decide +kernel⟩
theorem sv_X8_write : sr_okV yX8_write := ⟨sw_956, sw_957⟩
theorem sk_X8_unlike : sr_ok yX8_unlike cX8_unlike 4 (some .int) 0 := ⟨sw_966, sw_9, by decide +kernel⟩
theorem sv_X8_unlike : sr_okV yX8_unlike := ⟨sw_965, sp_44⟩
theorem sk_X8_count : sr_ok yX8_count cX8_count 2 (some .int) 1 := ⟨sw_962, sw_9, by decide +kernel⟩
theorem sv_X8_count : sr_okV yX8_count := ⟨sw_960, sw_961⟩
theorem sk_X8_digest : sr_ok yX8_digest cX8_digest 5 (some .long) 0 := ⟨sw_970, sw_9, by decide +kernel⟩
theorem sv_X8_digest : sr_okV yX8_digest := ⟨sw_968, sw_969⟩
theorem sk_J6_bitCount_0f7a4 : sr_ok yJ6_bitCount_0f7a4 cJ6_bitCount_0f7a4 1 (some .int) 1 := ⟨sw_481, sw_12, by decide +kernel⟩
theorem ss_J6_bitCount_0f7a4 : Cond.static yJ6_bitCount_0f7a4 ∈ sr_ws := sw_480
theorem sk_J9_max_7cf53 : sr_ok yJ9_max_7cf53 cJ9_max_7cf53 2 (some .int) 2 := ⟨sw_353, sw_10, by decide +kernel⟩
theorem ss_J9_max_7cf53 : Cond.static yJ9_max_7cf53 ∈ sr_ws := sw_352
theorem sk_J9_min_7cf53 : sr_ok yJ9_min_7cf53 cJ9_min_7cf53 2 (some .int) 2 := ⟨sw_324, sw_10, by decide +kernel⟩
theorem ss_J9_min_7cf53 : Cond.static yJ9_min_7cf53 ∈ sr_ws := sw_323
theorem sk_J7_fill_53178 : sr_ok yJ7_fill_53178 cJ7_fill_53178 4 none 2 := ⟨sw_469, sw_11, by decide +kernel⟩
theorem ss_J7_fill_53178 : Cond.static yJ7_fill_53178 ∈ sr_ws := sw_468
def sr_tL : Nat → Int32 := fun j => ([5, 0, 0, 0, 0, 0, 0] : List Int32).getD j 0
def sr_tM_ : Nat → Int32 := fun j => ([30, 5, 99, 9, 9, 99, 30] : List Int32).getD j 0
def sr_tS : Nat → Int32 := fun j => ([1, 4, 6, 4, 1] : List Int32).getD j 0
def sr_tP : Nat → Int32 := fun j => ([-2, -1, -1, -1, -1, 0, 0, 0, 0, 0, 0, 1, 1, 1, 1, 2] : List Int32).getD j 0
/-- a static table of a class, where A has none of it -/
def sr_Zst (C n : String) (N : Nat) (f : Nat → Int32) (A : Nat → Prop) (U : State) (H : Heap) : Prop := ∃ t : Nat, va_Z C n "[I" (.ref t) A U H ∧ va_T .int t N (fun j => .int (f j)) A U H
def sr_ZC (a : Nat → Nat) : State → Heap → Prop := fun U H => va_Nw (.methodLinkNest RX4 48 yX7_outside RX7) U ∧ va_Nw (.methodLinkNest RX5 37 yX7_outside RX7) U ∧ va_Nw (.methodLinkNest RX6 22 yX7_swap RX7) U ∧
  sr_Zst RX7 "LEAST_RULES" 7 sr_tL (sr_AC a) U H ∧ sr_Zst RX7 "MOST_RULES" 7 sr_tM_ (sr_AC a) U H ∧ sr_Zst RX1 "SHARES" 5 sr_tS (sr_AC a) U H ∧ sr_Zst RX0 "STEPS" 16 sr_tP (sr_AC a) U H
def sr_ZM : State → Heap → Prop := fun _ _ => True
theorem sr_Zst_m {C n : String} {N : Nat} {f : Nat → Int32} {A : Nat → Prop} {u U : State} {H : Heap} (h : u.vm.Alike U.vm) (z : sr_Zst C n N f A u H) : sr_Zst C n N f A U H := by
  obtain ⟨t, z1, z2⟩ := z
  exact ⟨t, z1.moved h, z2.moved h⟩
theorem sr_Zst_k {C n : String} {N : Nat} {f : Nat → Int32} {A : Nat → Prop} {U : State} {H H1 : Heap} (h : ∀ q : Nat, q < H.size → ¬ A q → H1[q]? = H[q]?) (z : sr_Zst C n N f A U H) : sr_Zst C n N f A U H1 := by
  obtain ⟨t, z1, z2⟩ := z
  exact ⟨t, z1.kept h, z2.kept h⟩
theorem sr_ZCok (a : Nat → Nat) : sr_Zok (sr_AC a) (sr_ZC a) := by
  refine ⟨fun u U H h z => ?_, fun u U H h z => ?_, fun U H H1 h z => ?_⟩
  · obtain ⟨z1, z2, z3, z4, z5, z6, z7⟩ := z
    have hA : u.vm.Alike U.vm := by rw [h]; exact Vm.Alike.refl _
    exact ⟨z1.same rfl h, z2.same rfl h, z3.same rfl h, sr_Zst_m hA z4, sr_Zst_m hA z5, sr_Zst_m hA z6, sr_Zst_m hA z7⟩
  · obtain ⟨z1, z2, z3, z4, z5, z6, z7⟩ := z
    have hA := h.alike
    exact ⟨va_Nw.warmM h z1, va_Nw.warmM h z2, va_Nw.warmM h z3, sr_Zst_m hA z4, sr_Zst_m hA z5, sr_Zst_m hA z6, sr_Zst_m hA z7⟩
  · obtain ⟨z1, z2, z3, z4, z5, z6, z7⟩ := z
    exact ⟨z1, z2, z3, sr_Zst_k h z4, sr_Zst_k h z5, sr_Zst_k h z6, sr_Zst_k h z7⟩
theorem sr_ZMok {A : Nat → Prop} : sr_Zok A sr_ZM := sr_Zok_T A
theorem sr_Zn48 {a : Nat → Nat} {s : State} {H : Heap} (z : sr_ZC a s H) : va_Nw (.methodLinkNest RX4 48 yX7_outside RX7) s := z.1
theorem sr_Zn37 {a : Nat → Nat} {s : State} {H : Heap} (z : sr_ZC a s H) : va_Nw (.methodLinkNest RX5 37 yX7_outside RX7) s := z.2.1
theorem sr_Zn22 {a : Nat → Nat} {s : State} {H : Heap} (z : sr_ZC a s H) : va_Nw (.methodLinkNest RX6 22 yX7_swap RX7) s := z.2.2.1
theorem sr_ZZL {a : Nat → Nat} {s : State} {H : Heap} (z : sr_ZC a s H) : sr_Zst RX7 "LEAST_RULES" 7 sr_tL (sr_AC a) s H := z.2.2.2.1
theorem sr_ZZM {a : Nat → Nat} {s : State} {H : Heap} (z : sr_ZC a s H) : sr_Zst RX7 "MOST_RULES" 7 sr_tM_ (sr_AC a) s H := z.2.2.2.2.1
theorem sr_ZZS {a : Nat → Nat} {s : State} {H : Heap} (z : sr_ZC a s H) : sr_Zst RX1 "SHARES" 5 sr_tS (sr_AC a) s H := z.2.2.2.2.2.1
theorem sr_ZZP {a : Nat → Nat} {s : State} {H : Heap} (z : sr_ZC a s H) : sr_Zst RX0 "STEPS" 16 sr_tP (sr_AC a) s H := z.2.2.2.2.2.2
theorem sr_rC19 {cI cR : ClassId} {a : Nat → Nat} {kp cx sg : sr_M} {k : Nat} (h : k < 3) : (sr_WC cI cR a kp cx sg)[20 + k]? = some (a (20 + k), .inl (cI, 25, .inl (sg (1 + k)))) := by
  rcases (show k = 0 ∨ k = 1 ∨ k = 2 by omega) with rfl | rfl | rfl <;> rfl
theorem sr_rsC19 {cI cR : ClassId} {a : Nat → Nat} {kp cx sg : sr_M} {f : Nat → Int32} {k : Nat} (h : k < 3) : (sr_WC cI cR a kp cx sg).set (20 + k) (a (20 + k), .inl (cI, 25, .inl f)) = sr_WC cI cR a kp cx (va_up sg (1 + k) f) := by
  rcases (show k = 0 ∨ k = 1 ∨ k = 2 by omega) with rfl | rfl | rfl <;> rfl
theorem sr_rC23 {cI cR : ClassId} {a : Nat → Nat} {kp cx sg : sr_M} {k : Nat} (h : k < 3) : (sr_WC cI cR a kp cx sg)[24 + k]? = some (a (24 + k), .inl (cI, 25, .inl (sg (4 + k)))) := by
  rcases (show k = 0 ∨ k = 1 ∨ k = 2 by omega) with rfl | rfl | rfl <;> rfl
theorem sr_rsC23 {cI cR : ClassId} {a : Nat → Nat} {kp cx sg : sr_M} {f : Nat → Int32} {k : Nat} (h : k < 3) : (sr_WC cI cR a kp cx sg).set (24 + k) (a (24 + k), .inl (cI, 25, .inl f)) = sr_WC cI cR a kp cx (va_up sg (4 + k) f) := by
  rcases (show k = 0 ∨ k = 1 ∨ k = 2 by omega) with rfl | rfl | rfl <;> rfl
theorem sr_rC29 {cI cR : ClassId} {a : Nat → Nat} {kp cx sg : sr_M} {k : Nat} (h : k < 4) : (sr_WC cI cR a kp cx sg)[30 + k]? = some (a (30 + k), .inl (cI, 60, .inl (cx (6 + k)))) := by
  rcases (show k = 0 ∨ k = 1 ∨ k = 2 ∨ k = 3 by omega) with rfl | rfl | rfl | rfl <;> rfl
theorem sr_rsC29 {cI cR : ClassId} {a : Nat → Nat} {kp cx sg : sr_M} {f : Nat → Int32} {k : Nat} (h : k < 4) : (sr_WC cI cR a kp cx sg).set (30 + k) (a (30 + k), .inl (cI, 60, .inl f)) = sr_WC cI cR a kp (va_up cx (6 + k) f) sg := by
  rcases (show k = 0 ∨ k = 1 ∨ k = 2 ∨ k = 3 by omega) with rfl | rfl | rfl | rfl <;> rfl
end
section
/-! WHAT THE SIDES SAY: numbers out of kp alone -/
def sr_n (kp : sr_M) : Nat := (kp 5 0).toNatClampNeg
def sr_ru (kp : sr_M) (s : Nat) : Nat := (kp 1 s).toNatClampNeg
def sr_zo (kp : sr_M) : Nat := (kp 2 0).toNatClampNeg
def sr_mk (kp : sr_M) (c : Nat) : Nat := (kp 3 c).toNatClampNeg
def sr_mo (j : Nat) : Int := if j = 1 then 5 else if j = 3 ∨ j = 4 then 9 else if j = 6 then 30 else 99
def sr_IK (kp : sr_M) : Prop :=
  (kp 5 0 = nI (sr_n kp) ∧ sr_n kp ≤ 40) ∧ (∀ s, s < 4 → kp 1 s = nI (sr_ru kp s) ∧ sr_ru kp s < 5) ∧ (kp 2 0 = nI (sr_zo kp) ∧ 5 ≤ sr_zo kp ∧ sr_zo kp ≤ 30) ∧
  (∀ j, 1 ≤ j → j < 7 → 0 ≤ (kp 2 j).toInt ∧ (kp 2 j).toInt ≤ sr_mo j) ∧ (∀ c, c < 3 → kp 3 c = nI (sr_mk kp c) ∧ sr_mk kp c ≤ 40) ∧ (∀ c, c < 3 → -60 ≤ (kp 4 c).toInt ∧ (kp 4 c).toInt ≤ 60) ∧ (∀ i, i < sr_n kp → 0 ≤ (kp 0 i).toInt ∧ (kp 0 i).toInt ≤ 255)
theorem sr_IK_n {kp : sr_M} (h : sr_IK kp) : kp 5 0 = nI (sr_n kp) := h.1.1
theorem sr_IK_n40 {kp : sr_M} (h : sr_IK kp) : sr_n kp ≤ 40 := h.1.2
theorem sr_IK_ru {kp : sr_M} (h : sr_IK kp) {s : Nat} (hs : s < 4) : kp 1 s = nI (sr_ru kp s) := (h.2.1 s hs).1
theorem sr_IK_ru5 {kp : sr_M} (h : sr_IK kp) {s : Nat} (hs : s < 4) : sr_ru kp s < 5 := (h.2.1 s hs).2
theorem sr_IK_zo {kp : sr_M} (h : sr_IK kp) : kp 2 0 = nI (sr_zo kp) := h.2.2.1.1
theorem sr_IK_zo5 {kp : sr_M} (h : sr_IK kp) : 5 ≤ sr_zo kp ∧ sr_zo kp ≤ 30 := h.2.2.1.2
theorem sr_IK_mk {kp : sr_M} (h : sr_IK kp) {c : Nat} (hc : c < 3) : kp 3 c = nI (sr_mk kp c) := (h.2.2.2.2.1 c hc).1
theorem sr_IK_mk40 {kp : sr_M} (h : sr_IK kp) {c : Nat} (hc : c < 3) : sr_mk kp c ≤ 40 := (h.2.2.2.2.1 c hc).2
-- the text
def sr_two (t : Nat → Int32) (p : Nat) : Int32 := 10 * (t p - 48) + t (p + 1) - 48
def sr_fig (kp : sr_M) (r j : Nat) : Int32 := if j = 0 then sr_two (kp 0) (7 * r) else if j = 1 then sr_two (kp 0) (7 * r + 2) else if j = 2 then kp 0 (7 * r + 4) - 48 else kp 0 (7 * r + 5) - 48
def sr_go (t : Nat → Int32) (p : Nat) : Bool :=
  if 5 ≤ p / 7 then false else if p % 7 = 6 then decide (t p = 59) else if t p < 48 ∨ 57 < t p then false else if p % 7 = 1 then decide (0 < sr_two t (p - 1)) else if p % 7 = 3 then decide (sr_two t (p - 3) ≤ sr_two t (p - 1)) else if p % 7 = 5 then decide (48 < t p ∧ t p ≤ 51) else true
def sr_run (t : Nat → Int32) : Nat → Nat → Nat
  | p, 0 => p
  | p, k + 1 => if sr_go t p = true then sr_run t (p + 1) k else p
def sr_pl (kp : sr_M) : Nat := sr_run (kp 0) 0 (sr_n kp)
abbrev sr_well (kp : sr_M) : Prop := sr_pl kp = sr_n kp ∧ (sr_n kp = 0 ∨ sr_n kp % 7 = 6)
def sr_cnt (kp : sr_M) : Nat := if sr_well kp then (sr_n kp + 1) / 7 else 0
def sr_flt (kp : sr_M) : Int32 := if sr_well kp then -1 else nI (sr_pl kp)
theorem sr_go35 {t : Nat → Int32} {p : Nat} (h : sr_go t p = true) : p < 35 := by
  unfold sr_go at h
  rcases Nat.lt_or_ge p 35 with q | q
  · exact q
  · rw [if_pos (by omega)] at h
    cases h
theorem sr_run_le (t : Nat → Int32) : ∀ (k p : Nat), p ≤ sr_run t p k ∧ sr_run t p k ≤ p + k
  | 0, p => ⟨Nat.le_refl _, Nat.le_refl _⟩
  | k + 1, p => by
    unfold sr_run
    split
    · obtain ⟨h1, h2⟩ := sr_run_le t k (p + 1)
      omega
    · omega
theorem sr_run_go (t : Nat → Int32) : ∀ (k p q : Nat), p ≤ q → q < sr_run t p k → sr_go t q = true
  | 0, p, q, h1, h2 => by unfold sr_run at h2; omega
  | k + 1, p, q, h1, h2 => by
    unfold sr_run at h2
    split at h2
    · rename_i h3
      rcases Nat.lt_or_ge p q with h4 | h4
      · exact sr_run_go t k (p + 1) q h4 h2
      · rw [show q = p by omega]
        exact h3
    · omega
theorem sr_run_no (t : Nat → Int32) : ∀ (k p : Nat), sr_run t p k < p + k → sr_go t (sr_run t p k) = false
  | 0, p, h => by unfold sr_run at h; omega
  | k + 1, p, h => by
    unfold sr_run at h ⊢
    split at h
    · rename_i h3
      rw [if_pos h3]
      exact sr_run_no t k (p + 1) (by omega)
    · rename_i h3
      rw [if_neg h3]
      exact Bool.eq_false_iff.mpr h3
/-- the run, met again at a later place -/
theorem sr_run_at (t : Nat → Int32) : ∀ (k p j : Nat), j ≤ k → (∀ q, p ≤ q → q < p + j → sr_go t q = true) → sr_run t p k = sr_run t (p + j) (k - j)
  | k, p, 0, _, _ => rfl
  | 0, p, j + 1, h, _ => by omega
  | k + 1, p, j + 1, h, hq => by
    have h1 : sr_run t p (k + 1) = sr_run t (p + 1) k := by
      show (if sr_go t p = true then sr_run t (p + 1) k else p) = _
      rw [if_pos (hq p (Nat.le_refl _) (by omega))]
    rw [h1, sr_run_at t k (p + 1) j (by omega) (fun q a b => hq q (by omega) (by omega)), show p + 1 + j = p + (j + 1) by omega, show k + 1 - (j + 1) = k - j by omega]
theorem sr_cnt5 (kp : sr_M) : sr_cnt kp ≤ 5 := by
  unfold sr_cnt
  split
  · rename_i h
    rcases Nat.lt_or_ge (sr_n kp) 35 with q | q
    · omega
    · have h1 := sr_go35 (sr_run_go (kp 0) (sr_n kp) 0 (sr_n kp - 1) (by omega) (by have := h.1; unfold sr_pl at this; omega))
      omega
  · omega
theorem sr_cnt7 {kp : sr_M} {r : Nat} (h : r < sr_cnt kp) : 7 * r + 6 ≤ sr_n kp ∧ sr_pl kp = sr_n kp := by
  unfold sr_cnt at h
  split at h
  · rename_i h1
    exact ⟨by omega, h1.1⟩
  · omega
abbrev sr_th (kp : sr_M) : Prop := sr_ru kp 0 < sr_cnt kp ∧ sr_ru kp 1 < sr_cnt kp ∧ sr_ru kp 2 < sr_cnt kp ∧ sr_ru kp 3 < sr_cnt kp
theorem sr_th_at {kp : sr_M} (h : sr_th kp) {s : Nat} (hs : s < 4) : sr_ru kp s < sr_cnt kp := by
  rcases (show s = 0 ∨ s = 1 ∨ s = 2 ∨ s = 3 by omega) with rfl | rfl | rfl | rfl
  · exact h.1
  · exact h.2.1
  · exact h.2.2.1
  · exact h.2.2.2
-- times
def sr_ex (kp : sr_M) (s : Nat) : Int32 := kp 2 3 + (if s % 2 = 0 then kp 2 4 else 0)
def sr_sl (kp : sr_M) (r : Nat) (y : Int32) : Int32 := if y < 4 * sr_fig kp r 2 then y else 4 * sr_fig kp r 2
def sr_T (kp : sr_M) (r s : Nat) (y : Int32) : Int32 := sr_sl kp r y * sr_fig kp r 1 + (y - sr_sl kp r y) * sr_fig kp r 0 + y * sr_ex kp s
def sr_wa (kp : sr_M) (sl : Int32) : Int32 := if kp 2 2 + sl < 0 then 0 else kp 2 2 + sl
def sr_Dl (kp : sr_M) (r s : Nat) (mk sl : Int32) : Int32 := sr_T kp r s (100 - mk) + sr_wa kp sl
def sr_fx (p : Nat → Bool) : Nat → Nat → Int32
  | 0, _ => -1
  | k + 1, i => if p i = true then nI i else sr_fx p k (i + 1)
def sr_mp (kp : sr_M) (co go c : Nat) (mk sl : Int32) (x : Nat) : Bool := decide (sr_T kp co c (100 + nI x - kp 2 1) ≤ sr_Dl kp co c mk sl + sr_T kp go (c + 1) (nI x))
def sr_mt (kp : sr_M) (co go c : Nat) (mk sl : Int32) : Int32 := sr_fx (sr_mp kp co go c mk sl) (sr_zo kp + 1) 0
theorem sr_fx_s {p : Nat → Bool} {k i : Nat} (h : i ≤ k) : sr_fx p (k + 1 - i) i = if p i = true then nI i else sr_fx p (k + 1 - (i + 1)) (i + 1) := by
  rw [show k + 1 - i = (k - i) + 1 by omega, show k + 1 - (i + 1) = k - i by omega]
  rfl
theorem sr_fx_c {p q : Nat → Bool} : ∀ (k i : Nat), (∀ j, i ≤ j → j < i + k → p j = q j) → sr_fx p k i = sr_fx q k i
  | 0, _, _ => rfl
  | k + 1, i, h => by
    unfold sr_fx
    rw [h i (Nat.le_refl _) (by omega), sr_fx_c k (i + 1) (fun j a b => h j (by omega) (by omega))]
-- the class: its own memory against kp
def sr_IC (kp cx : sr_M) : Prop := sr_IK kp ∧ cx 4 0 = sr_flt kp ∧ cx 4 1 = nI (sr_cnt kp) ∧ (∀ r, r < sr_cnt kp → cx 0 r = sr_fig kp r 0 ∧ cx 1 r = sr_fig kp r 1 ∧ cx 2 r = sr_fig kp r 2 ∧ cx 3 r = sr_fig kp r 3) ∧ (∀ s, s < 4 → cx 5 s = sr_ex kp s)
theorem sr_IC_K {kp cx : sr_M} (h : sr_IC kp cx) : sr_IK kp := h.1
theorem sr_IC_0 {kp cx : sr_M} (h : sr_IC kp cx) : cx 4 0 = sr_flt kp := h.2.1
theorem sr_IC_1 {kp cx : sr_M} (h : sr_IC kp cx) : cx 4 1 = nI (sr_cnt kp) := h.2.2.1
theorem sr_IC_f0 {kp cx : sr_M} (h : sr_IC kp cx) {r : Nat} (hr : r < sr_cnt kp) : cx 0 r = sr_fig kp r 0 := (h.2.2.2.1 r hr).1
theorem sr_IC_f1 {kp cx : sr_M} (h : sr_IC kp cx) {r : Nat} (hr : r < sr_cnt kp) : cx 1 r = sr_fig kp r 1 := (h.2.2.2.1 r hr).2.1
theorem sr_IC_f2 {kp cx : sr_M} (h : sr_IC kp cx) {r : Nat} (hr : r < sr_cnt kp) : cx 2 r = sr_fig kp r 2 := (h.2.2.2.1 r hr).2.2.1
theorem sr_IC_f3 {kp cx : sr_M} (h : sr_IC kp cx) {r : Nat} (hr : r < sr_cnt kp) : cx 3 r = sr_fig kp r 3 := (h.2.2.2.1 r hr).2.2.2
theorem sr_IC_ex {kp cx : sr_M} (h : sr_IC kp cx) {s : Nat} (hs : s < 4) : cx 5 s = sr_ex kp s := h.2.2.2.2 s hs
def sr_pc (kp : sr_M) (r s : Nat) : Int32 := sr_fig kp r 0 + sr_ex kp s
theorem sr_spanT (kp : sr_M) (r s : Nat) (y : Int32) : y * sr_ex kp s + (if 4 * sr_fig kp r 2 < y then 4 * sr_fig kp r 2 else y) * sr_fig kp r 1 + (y - (if 4 * sr_fig kp r 2 < y then 4 * sr_fig kp r 2 else y)) * sr_fig kp r 0 = sr_T kp r s y := by
  have h : (if 4 * sr_fig kp r 2 < y then 4 * sr_fig kp r 2 else y) = sr_sl kp r y := by
    unfold sr_sl
    split <;> rename_i h1 <;> split <;> rename_i h2
    · exact absurd h1 (by rw [Int32.lt_iff_toInt_lt] at *; omega)
    · rfl
    · rfl
    · refine Int32.toInt_inj.mp ?_
      rw [Int32.lt_iff_toInt_lt] at *
      omega
  rw [h]
  unfold sr_T
  grind
end
section
/-! NUMBERS: no sum here wraps; what the class says of a meeting is what the reference says -/
theorem sr_addI {x y : Int32} (h1 : -2147483648 ≤ x.toInt + y.toInt) (h2 : x.toInt + y.toInt < 2147483648) : (x + y).toInt = x.toInt + y.toInt := by
  rw [Int32.toInt_add]
  exact Int.bmod_eq_of_le (by omega) (by omega)
theorem sr_subI {x y : Int32} (h1 : -2147483648 ≤ x.toInt - y.toInt) (h2 : x.toInt - y.toInt < 2147483648) : (x - y).toInt = x.toInt - y.toInt := by
  rw [Int32.toInt_sub]
  exact Int.bmod_eq_of_le (by omega) (by omega)
theorem sr_mulb {x y A B : Int} (hx1 : -A ≤ x) (hx2 : x ≤ A) (hy1 : -B ≤ y) (hy2 : y ≤ B) : -(A * B) ≤ x * y ∧ x * y ≤ A * B := by
  have h1 : x.natAbs ≤ A.natAbs := by omega
  have h2 : y.natAbs ≤ B.natAbs := by omega
  have h3 := Nat.mul_le_mul h1 h2
  rw [← Int.natAbs_mul, ← Int.natAbs_mul] at h3
  have h4 : 0 ≤ A * B := Int.mul_nonneg (by omega) (by omega)
  omega
theorem sr_mulI {x y : Int32} (A B : Int) (hx1 : -A ≤ x.toInt) (hx2 : x.toInt ≤ A) (hy1 : -B ≤ y.toInt) (hy2 : y.toInt ≤ B) (hAB : A * B < 2147483648) : (x * y).toInt = x.toInt * y.toInt := by
  have h := sr_mulb hx1 hx2 hy1 hy2
  rw [Int32.toInt_mul]
  exact Int.bmod_eq_of_le (by omega) (by omega)
theorem sr_nIi {n : Nat} (h : n < 2147483648) : (nI n).toInt = (n : Int) := nI_toInt h
def sr_b0 (x : Int32) (n : Int) : Prop := 0 ≤ x.toInt ∧ x.toInt ≤ n
def sr_bs (x : Int32) : Prop := -60 ≤ x.toInt ∧ x.toInt ≤ 60
-- the figures of one who is there
theorem sr_goA {kp : sr_M} {r : Nat} (h : r < sr_cnt kp) (j : Nat) (hj : j < 6) : sr_go (kp 0) (7 * r + j) = true := by
  obtain ⟨h1, h2⟩ := sr_cnt7 h
  unfold sr_pl at h2
  exact sr_run_go (kp 0) (sr_n kp) 0 _ (by omega) (by omega)
theorem sr_goD {t : Nat → Int32} {r j : Nat} (hj : j < 6) (h : sr_go t (7 * r + j) = true) : 48 ≤ (t (7 * r + j)).toInt ∧ (t (7 * r + j)).toInt ≤ 57 := by
  unfold sr_go at h
  split at h
  · cases h
  · rw [if_neg (by omega)] at h
    split at h
    · cases h
    · rename_i h1
      rw [not_or] at h1
      obtain ⟨h2, h3⟩ := h1
      rw [Int32.lt_iff_toInt_lt] at h2 h3
      have e1 : (48 : Int32).toInt = 48 := rfl
      have e2 : (57 : Int32).toInt = 57 := rfl
      omega
theorem sr_twoI {t : Nat → Int32} {p : Nat} (h1 : 48 ≤ (t p).toInt ∧ (t p).toInt ≤ 57) (h2 : 48 ≤ (t (p + 1)).toInt ∧ (t (p + 1)).toInt ≤ 57) : (sr_two t p).toInt = 10 * ((t p).toInt - 48) + ((t (p + 1)).toInt - 48) := by
  have e48 : (48 : Int32).toInt = 48 := rfl
  have e10 : (10 : Int32).toInt = 10 := rfl
  have a1 : (t p - 48).toInt = (t p).toInt - 48 := by rw [sr_subI] <;> omega
  have a2 : (10 * (t p - 48)).toInt = 10 * ((t p).toInt - 48) := by rw [sr_mulI 10 9, a1, e10] <;> omega
  have a3 : (10 * (t p - 48) + t (p + 1)).toInt = 10 * ((t p).toInt - 48) + (t (p + 1)).toInt := by rw [sr_addI, a2] <;> omega
  unfold sr_two
  rw [sr_subI, a3, e48] <;> omega
theorem sr_figb {kp : sr_M} {r : Nat} (h : r < sr_cnt kp) : 1 ≤ (sr_fig kp r 0).toInt ∧ (sr_fig kp r 0).toInt ≤ (sr_fig kp r 1).toInt ∧ (sr_fig kp r 1).toInt ≤ 99 ∧ sr_b0 (sr_fig kp r 2) 9 ∧ 1 ≤ (sr_fig kp r 3).toInt ∧ (sr_fig kp r 3).toInt ≤ 3 := by
  have d0 := sr_goD (by omega) (sr_goA h 0 (by omega))
  have d1 := sr_goD (by omega) (sr_goA h 1 (by omega))
  have d2 := sr_goD (by omega) (sr_goA h 2 (by omega))
  have d3 := sr_goD (by omega) (sr_goA h 3 (by omega))
  have d4 := sr_goD (by omega) (sr_goA h 4 (by omega))
  have d5 := sr_goD (by omega) (sr_goA h 5 (by omega))
  have t0 := sr_twoI (t := kp 0) (p := 7 * r) d0 d1
  have t2 := sr_twoI (t := kp 0) (p := 7 * r + 2) d2 d3
  have g1 := sr_goA h 1 (by omega)
  have g3 := sr_goA h 3 (by omega)
  have g5 := sr_goA h 5 (by omega)
  have e48 : (48 : Int32).toInt = 48 := rfl
  have e51 : (51 : Int32).toInt = 51 := rfl
  have e0 : (0 : Int32).toInt = 0 := rfl
  have s4 : (kp 0 (7 * r + 4) - 48).toInt = (kp 0 (7 * r + 4)).toInt - 48 := by rw [sr_subI] <;> omega
  have s5 : (kp 0 (7 * r + 5) - 48).toInt = (kp 0 (7 * r + 5)).toInt - 48 := by rw [sr_subI] <;> omega
  have k1 : 0 < (sr_two (kp 0) (7 * r)).toInt := by
    unfold sr_go at g1
    split at g1
    · cases g1
    · rw [if_neg (by omega)] at g1
      split at g1
      · cases g1
      · rw [if_pos (by omega)] at g1
        have := of_decide_eq_true g1
        rw [Int32.lt_iff_toInt_lt] at this
        exact this
  have k3 : (sr_two (kp 0) (7 * r)).toInt ≤ (sr_two (kp 0) (7 * r + 2)).toInt := by
    unfold sr_go at g3
    split at g3
    · cases g3
    · rw [if_neg (by omega)] at g3
      split at g3
      · cases g3
      · rw [if_neg (by omega), if_pos (by omega)] at g3
        have := of_decide_eq_true g3
        rw [Int32.le_iff_toInt_le] at this
        exact this
  have k5 : 48 < (kp 0 (7 * r + 5)).toInt ∧ (kp 0 (7 * r + 5)).toInt ≤ 51 := by
    unfold sr_go at g5
    split at g5
    · cases g5
    · rw [if_neg (by omega)] at g5
      split at g5
      · cases g5
      · rw [if_neg (by omega), if_neg (by omega), if_pos (by omega)] at g5
        have := of_decide_eq_true g5
        rw [Int32.lt_iff_toInt_lt, Int32.le_iff_toInt_le] at this
        exact this
  have f0 : sr_fig kp r 0 = sr_two (kp 0) (7 * r) := rfl
  have f1 : sr_fig kp r 1 = sr_two (kp 0) (7 * r + 2) := rfl
  have f2 : sr_fig kp r 2 = kp 0 (7 * r + 4) - 48 := rfl
  have f3 : sr_fig kp r 3 = kp 0 (7 * r + 5) - 48 := rfl
  unfold sr_b0
  rw [f0, f1, f2, f3]
  refine ⟨by omega, k3, ?_, ⟨by omega, by omega⟩, by omega, by omega⟩
  have e3 : (kp 0 (7 * r + 2 + 1)) = kp 0 (7 * r + 3) := rfl
  rw [e3] at t2
  omega
theorem sr_IK_r {kp : sr_M} (h : sr_IK kp) {j : Nat} (h1 : 1 ≤ j) (h2 : j < 7) : 0 ≤ (kp 2 j).toInt ∧ (kp 2 j).toInt ≤ sr_mo j := h.2.2.2.1 j h1 h2
theorem sr_IK_sl {kp : sr_M} (h : sr_IK kp) {c : Nat} (hc : c < 3) : sr_bs (kp 4 c) := h.2.2.2.2.2.1 c hc
theorem sr_IK_mb {kp : sr_M} (h : sr_IK kp) {c : Nat} (hc : c < 3) : sr_b0 (kp 3 c) 40 := by
  rw [sr_IK_mk h hc]
  have := sr_IK_mk40 h hc
  unfold sr_b0
  rw [sr_nIi (by omega)]
  omega
theorem sr_exb {kp : sr_M} (h : sr_IK kp) (s : Nat) : sr_b0 (sr_ex kp s) 18 := by
  have h3 := sr_IK_r h (j := 3) (by omega) (by omega)
  have h4 := sr_IK_r h (j := 4) (by omega) (by omega)
  have m3 : sr_mo 3 = 9 := rfl
  have m4 : sr_mo 4 = 9 := rfl
  have e0 : (0 : Int32).toInt = 0 := rfl
  unfold sr_b0 sr_ex
  split
  · rw [sr_addI] <;> omega
  · rw [sr_addI] <;> omega
theorem sr_pcI {kp : sr_M} (h : sr_IK kp) {r : Nat} (hr : r < sr_cnt kp) (s : Nat) : (sr_pc kp r s).toInt = (sr_fig kp r 0).toInt + (sr_ex kp s).toInt ∧ 1 ≤ (sr_pc kp r s).toInt ∧ (sr_pc kp r s).toInt ≤ 117 := by
  have h1 := sr_figb hr
  have h2 := sr_exb h s
  unfold sr_b0 at h2
  have h3 : (sr_pc kp r s).toInt = (sr_fig kp r 0).toInt + (sr_ex kp s).toInt := by
    unfold sr_pc
    rw [sr_addI] <;> omega
  omega
theorem sr_waI {kp : sr_M} (h : sr_IK kp) {sl : Int32} (hs : sr_bs sl) : sr_b0 (sr_wa kp sl) 159 := by
  have h2 := sr_IK_r h (j := 2) (by omega) (by omega)
  have m2 : sr_mo 2 = 99 := rfl
  have e0 : (0 : Int32).toInt = 0 := rfl
  unfold sr_bs at hs
  have h3 : (kp 2 2 + sl).toInt = (kp 2 2).toInt + sl.toInt := by rw [sr_addI] <;> omega
  unfold sr_b0 sr_wa
  split <;> rename_i h4
  · omega
  · rw [Int32.lt_iff_toInt_lt] at h4
    omega
/-- the time for some yards, as a number -/
theorem sr_TI {kp : sr_M} (h : sr_IK kp) {r : Nat} (hr : r < sr_cnt kp) (s : Nat) {y : Int32} (hy : sr_b0 y 200) :
    (sr_T kp r s y).toInt = (if y.toInt < 4 * (sr_fig kp r 2).toInt then y.toInt else 4 * (sr_fig kp r 2).toInt) * (sr_fig kp r 1).toInt + (y.toInt - (if y.toInt < 4 * (sr_fig kp r 2).toInt then y.toInt else 4 * (sr_fig kp r 2).toInt)) * (sr_fig kp r 0).toInt + y.toInt * (sr_ex kp s).toInt ∧ 0 ≤ (sr_T kp r s y).toInt ∧ (sr_T kp r s y).toInt ≤ 50000 := by
  obtain ⟨f0, f01, f1, f2, f3, f4⟩ := sr_figb hr
  have hx := sr_exb h s
  unfold sr_b0 at hx hy f2
  have e4 : (4 : Int32).toInt = 4 := rfl
  have q4 : (4 * sr_fig kp r 2).toInt = 4 * (sr_fig kp r 2).toInt := by rw [sr_mulI 4 9, e4] <;> omega
  have hsl : (sr_sl kp r y).toInt = (if y.toInt < 4 * (sr_fig kp r 2).toInt then y.toInt else 4 * (sr_fig kp r 2).toInt) := by
    unfold sr_sl
    split <;> rename_i h9 <;> rw [Int32.lt_iff_toInt_lt, q4] at h9
    · rw [if_pos h9]
    · rw [if_neg h9]
      exact q4
  have hb : 0 ≤ (sr_sl kp r y).toInt ∧ (sr_sl kp r y).toInt ≤ 36 ∧ (sr_sl kp r y).toInt ≤ y.toInt := by
    rw [hsl]
    split <;> omega
  rw [← hsl]
  have p1 : (sr_sl kp r y * sr_fig kp r 1).toInt = (sr_sl kp r y).toInt * (sr_fig kp r 1).toInt := by rw [sr_mulI 36 99] <;> omega
  have p2 : (y - sr_sl kp r y).toInt = y.toInt - (sr_sl kp r y).toInt := by rw [sr_subI] <;> omega
  have p3 : ((y - sr_sl kp r y) * sr_fig kp r 0).toInt = (y.toInt - (sr_sl kp r y).toInt) * (sr_fig kp r 0).toInt := by rw [sr_mulI 200 99, p2] <;> omega
  have p4 : (y * sr_ex kp s).toInt = y.toInt * (sr_ex kp s).toInt := by rw [sr_mulI 200 18] <;> omega
  have b1 := sr_mulb (x := (sr_sl kp r y).toInt) (y := (sr_fig kp r 1).toInt) (A := 36) (B := 99) (by omega) (by omega) (by omega) (by omega)
  have b2 := sr_mulb (x := y.toInt - (sr_sl kp r y).toInt) (y := (sr_fig kp r 0).toInt) (A := 200) (B := 99) (by omega) (by omega) (by omega) (by omega)
  have b3 := sr_mulb (x := y.toInt) (y := (sr_ex kp s).toInt) (A := 200) (B := 18) (by omega) (by omega) (by omega) (by omega)
  have c1 : 0 ≤ (sr_sl kp r y).toInt * (sr_fig kp r 1).toInt := Int.mul_nonneg (by omega) (by omega)
  have c2 : 0 ≤ (y.toInt - (sr_sl kp r y).toInt) * (sr_fig kp r 0).toInt := Int.mul_nonneg (by omega) (by omega)
  have c3 : 0 ≤ y.toInt * (sr_ex kp s).toInt := Int.mul_nonneg (by omega) (by omega)
  have s1 : (sr_sl kp r y * sr_fig kp r 1 + (y - sr_sl kp r y) * sr_fig kp r 0).toInt = (sr_sl kp r y).toInt * (sr_fig kp r 1).toInt + (y.toInt - (sr_sl kp r y).toInt) * (sr_fig kp r 0).toInt := by rw [sr_addI, p1, p3] <;> omega
  have s2 : (sr_T kp r s y).toInt = (sr_sl kp r y).toInt * (sr_fig kp r 1).toInt + (y.toInt - (sr_sl kp r y).toInt) * (sr_fig kp r 0).toInt + y.toInt * (sr_ex kp s).toInt := by
    unfold sr_T
    rw [sr_addI, s1, p4] <;> omega
  omega
/-- at full tilt, each yard takes a pace -/
theorem sr_Tfull {kp : sr_M} (h : sr_IK kp) {r : Nat} (hr : r < sr_cnt kp) (s : Nat) {y z : Int32} (hy : 36 ≤ y.toInt ∧ y.toInt ≤ 200) (hz : 36 ≤ z.toInt ∧ z.toInt ≤ 200) : (sr_T kp r s y).toInt - (sr_T kp r s z).toInt = (y.toInt - z.toInt) * (sr_pc kp r s).toInt := by
  obtain ⟨f0, f01, f1, f2, f3, f4⟩ := sr_figb hr
  unfold sr_b0 at f2
  rw [(sr_TI h hr s (y := y) ⟨by omega, by omega⟩).1, (sr_TI h hr s (y := z) ⟨by omega, by omega⟩).1, (sr_pcI h hr s).1, if_neg (by omega), if_neg (by omega)]
  generalize (sr_fig kp r 0).toInt = a
  generalize (sr_fig kp r 1).toInt = b
  generalize (sr_fig kp r 2).toInt = c
  generalize (sr_ex kp s).toInt = d
  generalize y.toInt = y
  generalize z.toInt = z
  grind
def sr_hr (kp : sr_M) (co go c : Nat) (sl : Int32) (x : Nat) : Int32 := sr_wa kp sl + sr_T kp go (c + 1) (nI x) - (nI x - kp 2 1) * sr_pc kp co c
theorem sr_hrI {kp : sr_M} (h : sr_IK kp) {co go c : Nat} (h1 : co < sr_cnt kp) (h2 : go < sr_cnt kp) {sl : Int32} (hs : sr_bs sl) {x : Nat} (hx : x ≤ 30) : (sr_hr kp co go c sl x).toInt = (sr_wa kp sl).toInt + (sr_T kp go (c + 1) (nI x)).toInt - ((x : Int) - (kp 2 1).toInt) * (sr_pc kp co c).toInt ∧ -4000 ≤ (sr_hr kp co go c sl x).toInt ∧ (sr_hr kp co go c sl x).toInt ≤ 60000 := by
  have w := sr_waI h hs
  have x1 : (nI x).toInt = (x : Int) := sr_nIi (by omega)
  have t := (sr_TI h h2 (c + 1) (y := nI x) ⟨by omega, by omega⟩).2
  have p := sr_pcI h h1 c
  have r1 := sr_IK_r h (j := 1) (by omega) (by omega)
  have m1 : sr_mo 1 = 5 := rfl
  unfold sr_b0 at w
  have a1 : (nI x - kp 2 1).toInt = (x : Int) - (kp 2 1).toInt := by rw [sr_subI] <;> omega
  have a2 : ((nI x - kp 2 1) * sr_pc kp co c).toInt = ((x : Int) - (kp 2 1).toInt) * (sr_pc kp co c).toInt := by rw [sr_mulI 30 117, a1] <;> omega
  have b := sr_mulb (x := (x : Int) - (kp 2 1).toInt) (y := (sr_pc kp co c).toInt) (A := 30) (B := 117) (by omega) (by omega) (by omega) (by omega)
  have a3 : (sr_wa kp sl + sr_T kp go (c + 1) (nI x)).toInt = (sr_wa kp sl).toInt + (sr_T kp go (c + 1) (nI x)).toInt := by rw [sr_addI] <;> omega
  have a4 : (sr_hr kp co go c sl x).toInt = (sr_wa kp sl).toInt + (sr_T kp go (c + 1) (nI x)).toInt - ((x : Int) - (kp 2 1).toInt) * (sr_pc kp co c).toInt := by
    unfold sr_hr
    rw [sr_subI, a3, a2] <;> omega
  omega
/-- where they meet: the class's question is the reference's -/
theorem sr_hd {kp : sr_M} (h : sr_IK kp) {co go c : Nat} (h1 : co < sr_cnt kp) (h2 : go < sr_cnt kp) {mk sl : Int32} (hm : sr_b0 mk 40) (hs : sr_bs sl) {x : Nat} (hx : x ≤ 30) : (mk * sr_pc kp co c ≤ sr_hr kp co go c sl x) ↔ sr_mp kp co go c mk sl x = true := by
  have w := sr_waI h hs
  have x1 : (nI x).toInt = (x : Int) := sr_nIi (by omega)
  have t := (sr_TI h h2 (c + 1) (y := nI x) ⟨by omega, by omega⟩).2
  have p := sr_pcI h h1 c
  have r1 := sr_IK_r h (j := 1) (by omega) (by omega)
  have m1 : sr_mo 1 = 5 := rfl
  have e100 : (100 : Int32).toInt = 100 := rfl
  have hh := sr_hrI h h1 h2 (c := c) hs hx
  unfold sr_b0 at w hm
  have a0 : (100 + nI x).toInt = 100 + (x : Int) := by rw [sr_addI, x1, e100] <;> omega
  have a1 : (100 + nI x - kp 2 1).toInt = 100 + (x : Int) - (kp 2 1).toInt := by rw [sr_subI, a0] <;> omega
  have a2 : (100 - mk).toInt = 100 - mk.toInt := by rw [sr_subI, e100] <;> omega
  have t1 := (sr_TI h h1 c (y := 100 + nI x - kp 2 1) ⟨by omega, by omega⟩).2
  have t2 := (sr_TI h h1 c (y := 100 - mk) ⟨by omega, by omega⟩).2
  have tf := sr_Tfull h h1 c (y := 100 + nI x - kp 2 1) (z := 100 - mk) ⟨by omega, by omega⟩ ⟨by omega, by omega⟩
  have d1 : (sr_Dl kp co c mk sl).toInt = (sr_T kp co c (100 - mk)).toInt + (sr_wa kp sl).toInt := by
    unfold sr_Dl
    rw [sr_addI] <;> omega
  have d2 : (sr_Dl kp co c mk sl + sr_T kp go (c + 1) (nI x)).toInt = (sr_Dl kp co c mk sl).toInt + (sr_T kp go (c + 1) (nI x)).toInt := by rw [sr_addI] <;> omega
  have k1 : (mk * sr_pc kp co c).toInt = mk.toInt * (sr_pc kp co c).toInt := by rw [sr_mulI 40 117] <;> omega
  unfold sr_mp
  rw [decide_eq_true_iff, Int32.le_iff_toInt_le, Int32.le_iff_toInt_le, hh.1, k1, d2, d1]
  rw [a1, a2] at tf
  have e : (100 + (x : Int) - (kp 2 1).toInt - (100 - mk.toInt)) * (sr_pc kp co c).toInt = ((x : Int) - (kp 2 1).toInt) * (sr_pc kp co c).toInt + mk.toInt * (sr_pc kp co c).toInt := by
    rw [← Int.add_mul]
    congr 1
    omega
  rw [e] at tf
  omega

theorem sr_fx_p {p : Nat → Bool} : ∀ (k i : Nat), i + k < 2147483648 → (sr_fx p k i = -1 ∧ ∀ x, i ≤ x → x < i + k → p x = false) ∨ ∃ x, i ≤ x ∧ x < i + k ∧ p x = true ∧ sr_fx p k i = nI x
  | 0, i, _ => Or.inl ⟨rfl, fun x h1 h2 => by omega⟩
  | k + 1, i, hk => by
    unfold sr_fx
    split <;> rename_i h
    · exact Or.inr ⟨i, Nat.le_refl _, by omega, h, rfl⟩
    · rcases sr_fx_p (p := p) k (i + 1) (by omega) with ⟨h1, h2⟩ | ⟨x, h1, h2, h3, h4⟩
      · refine Or.inl ⟨h1, fun x h3 h4 => ?_⟩
        rcases Nat.lt_or_ge i x with q | q
        · exact h2 x q (by omega)
        · rw [show x = i by omega]
          exact Bool.eq_false_iff.mpr h
      · exact Or.inr ⟨x, by omega, by omega, h3, h4⟩
theorem sr_m1 {x : Nat} (h : x < 2147483648) : nI x ≠ -1 := fun q => by
  have h1 := congrArg Int32.toInt q
  rw [sr_nIi h] at h1
  have e : (-1 : Int32).toInt = -1 := rfl
  omega
/-- they meet somewhere -/
theorem sr_mtE {kp : sr_M} (h : sr_IK kp) {co go c : Nat} {mk sl : Int32} : sr_mt kp co go c mk sl ≠ -1 ↔ ∃ x, x ≤ sr_zo kp ∧ sr_mp kp co go c mk sl x = true := by
  have hz := sr_IK_zo5 h
  unfold sr_mt
  rcases sr_fx_p (p := sr_mp kp co go c mk sl) (sr_zo kp + 1) 0 (by omega) with ⟨h1, h2⟩ | ⟨x, h1, h2, h3, h4⟩
  · rw [h1]
    refine ⟨fun q => absurd rfl q, fun ⟨x, h3, h4⟩ => ?_⟩
    rw [h2 x (by omega) (by omega)] at h4
    cases h4
  · rw [h4]
    exact ⟨fun _ => ⟨x, by omega, h3⟩, fun _ => sr_m1 (by omega)⟩
theorem sr_mt0 {kp : sr_M} {co go c : Nat} {mk sl : Int32} : sr_mp kp co go c mk sl 0 = true → sr_mt kp co go c mk sl = 0 := by
  intro h
  unfold sr_mt
  unfold sr_fx
  rw [if_pos h]
  rfl
theorem sr_mt0' {kp : sr_M} (h : sr_IK kp) {co go c : Nat} {mk sl : Int32} : sr_mt kp co go c mk sl = 0 ↔ sr_mp kp co go c mk sl 0 = true := by
  refine ⟨fun q => ?_, sr_mt0⟩
  have hz := sr_IK_zo5 h
  unfold sr_mt at q
  rcases sr_fx_p (p := sr_mp kp co go c mk sl) (sr_zo kp + 1) 0 (by omega) with ⟨h1, h2⟩ | ⟨x, h1, h2, h3, h4⟩
  · rw [h1] at q
    exact absurd q (by decide)
  · rw [h4] at q
    have h5 := congrArg Int32.toInt q
    rw [sr_nIi (by omega)] at h5
    have e : (0 : Int32).toInt = 0 := rfl
    rw [show x = 0 by omega] at h3
    exact h3
/-- where they meet is a number -/
theorem sr_mtN {kp : sr_M} (h : sr_IK kp) {co go c : Nat} {mk sl : Int32} : sr_mt kp co go c mk sl = -1 ∨ ∃ x, x ≤ sr_zo kp ∧ sr_mt kp co go c mk sl = nI x := by
  have hz := sr_IK_zo5 h
  unfold sr_mt
  rcases sr_fx_p (p := sr_mp kp co go c mk sl) (sr_zo kp + 1) 0 (by omega) with ⟨h1, _⟩ | ⟨x, h1, h2, h3, h4⟩
  · exact Or.inl h1
  · exact Or.inr ⟨x, by omega, h4⟩
-- the best mark: the greatest that is not out
def sr_gr (p : Nat → Bool) : Nat → Nat
  | 0 => 0
  | m + 1 => if p (m + 1) = true then m + 1 else sr_gr p m
theorem sr_gr_le (p : Nat → Bool) : ∀ m, sr_gr p m ≤ m
  | 0 => Nat.le_refl _
  | m + 1 => by
    unfold sr_gr
    split
    · exact Nat.le_refl _
    · exact Nat.le_succ_of_le (sr_gr_le p m)
theorem sr_gr_i {p : Nat → Bool} {q : Nat} (hp : ∀ m, m ≤ 40 → (p m = true ↔ m ≤ q)) : ∀ m, m ≤ 40 → sr_gr p m = if q < m then q else m
  | 0, _ => by
    unfold sr_gr
    split <;> omega
  | m + 1, h => by
    unfold sr_gr
    have h1 := hp (m + 1) h
    have h2 := sr_gr_i hp m (by omega)
    split <;> rename_i h3
    · have := h1.mp h3
      rw [if_neg (by omega)]
    · have : ¬ m + 1 ≤ q := fun z => h3 (h1.mpr z)
      rw [h2]
      split <;> split <;> omega
def sr_pm (kp : sr_M) (co go c : Nat) (sl : Int32) (m : Nat) : Bool := decide (sr_mt kp co go c (nI m) sl ≠ -1)
def sr_best (kp : sr_M) (co go c : Nat) (sl : Int32) : Nat := sr_gr (sr_pm kp co go c sl) 40
/-- the greatest headroom of the yards ahead of i -/
def sr_mx (kp : sr_M) (co go c : Nat) (sl : Int32) : Nat → Int32
  | 0 => 0
  | i + 1 => if sr_mx kp co go c sl i < sr_hr kp co go c sl i then sr_hr kp co go c sl i else sr_mx kp co go c sl i
theorem sr_mxI {kp : sr_M} (h : sr_IK kp) {co go c : Nat} (h1 : co < sr_cnt kp) (h2 : go < sr_cnt kp) {sl : Int32} (hs : sr_bs sl) : ∀ i, i ≤ 31 → 0 ≤ (sr_mx kp co go c sl i).toInt ∧ (sr_mx kp co go c sl i).toInt ≤ 60000 ∧ ((sr_mx kp co go c sl i).toInt = 0 ∨ ∃ x, x < i ∧ sr_mx kp co go c sl i = sr_hr kp co go c sl x) ∧ ∀ x, x < i → (sr_hr kp co go c sl x).toInt ≤ (sr_mx kp co go c sl i).toInt
  | 0, _ => by
    have e : (0 : Int32).toInt = 0 := rfl
    unfold sr_mx
    exact ⟨by omega, by omega, Or.inl e, fun x hx => by omega⟩
  | i + 1, hi => by
    obtain ⟨a1, a2, a3, a4⟩ := sr_mxI h h1 h2 (c := c) hs i (by omega)
    have hh := (sr_hrI h h1 h2 (c := c) hs (x := i) (by omega)).2
    unfold sr_mx
    split <;> rename_i h3 <;> rw [Int32.lt_iff_toInt_lt] at h3
    · refine ⟨by omega, by omega, Or.inr ⟨i, by omega, rfl⟩, fun x hx => ?_⟩
      rcases Nat.lt_or_ge x i with q | q
      · have := a4 x q
        omega
      · rw [show x = i by omega]
        exact Int.le_refl _
    · refine ⟨a1, a2, a3.elim Or.inl (fun ⟨x, hx, e⟩ => Or.inr ⟨x, by omega, e⟩), fun x hx => ?_⟩
      rcases Nat.lt_or_ge x i with q | q
      · exact a4 x q
      · rw [show x = i by omega]
        omega
theorem sr_pmI {kp : sr_M} (h : sr_IK kp) {co go c : Nat} (h1 : co < sr_cnt kp) (h2 : go < sr_cnt kp) {sl : Int32} (hs : sr_bs sl) {m : Nat} (hm : m ≤ 40) : sr_pm kp co go c sl m = true ↔ (m : Int) * (sr_pc kp co c).toInt ≤ (sr_mx kp co go c sl (sr_zo kp + 1)).toInt := by
  have hz := sr_IK_zo5 h
  have p := sr_pcI h h1 c
  obtain ⟨a1, a2, a3, a4⟩ := sr_mxI h h1 h2 (c := c) hs (sr_zo kp + 1) (by omega)
  have hmb : sr_b0 (nI m) 40 := by
    unfold sr_b0
    rw [sr_nIi (by omega)]
    omega
  have hmI : (nI m).toInt = (m : Int) := sr_nIi (by omega)
  have k1 : (nI m * sr_pc kp co c).toInt = (m : Int) * (sr_pc kp co c).toInt := by rw [sr_mulI 40 117, hmI] <;> omega
  unfold sr_pm
  rw [decide_eq_true_iff, sr_mtE h]
  constructor
  · rintro ⟨x, hx, hp⟩
    have := (sr_hd h h1 h2 hmb hs (x := x) (by omega)).mpr hp
    rw [Int32.le_iff_toInt_le, k1] at this
    have := a4 x (by omega)
    omega
  · intro hp
    rcases a3 with e | ⟨x, hx, e⟩
    · refine ⟨0, by omega, (sr_hd h h1 h2 hmb hs (x := 0) (by omega)).mp ?_⟩
      rw [Int32.le_iff_toInt_le, k1]
      have hh := sr_hrI h h1 h2 (c := c) hs (x := 0) (by omega)
      have t := (sr_TI h h2 (c + 1) (y := nI 0) ⟨by decide, by decide⟩).2
      have w := sr_waI h hs
      have r1 := sr_IK_r h (j := 1) (by omega) (by omega)
      have m1 : sr_mo 1 = 5 := rfl
      unfold sr_b0 at w
      have b : 0 ≤ (kp 2 1).toInt * (sr_pc kp co c).toInt := Int.mul_nonneg (by omega) (by omega)
      have e2 : ((0 : Nat) : Int) - (kp 2 1).toInt = -(kp 2 1).toInt := by omega
      rw [hh.1, e2, Int.neg_mul]
      omega
    · refine ⟨x, by omega, (sr_hd h h1 h2 hmb hs (x := x) (by omega)).mp ?_⟩
      rw [Int32.le_iff_toInt_le, k1, ← e]
      exact hp
/-- the class's greatest mark -/
theorem sr_far {kp : sr_M} (h : sr_IK kp) {co go c : Nat} (h1 : co < sr_cnt kp) (h2 : go < sr_cnt kp) {sl : Int32} (hs : sr_bs sl) : (if sr_mx kp co go c sl (sr_zo kp + 1) / sr_pc kp co c < 40 then sr_mx kp co go c sl (sr_zo kp + 1) / sr_pc kp co c else 40) = nI (sr_best kp co go c sl) := by
  have hz := sr_IK_zo5 h
  have p := sr_pcI h h1 c
  obtain ⟨a1, a2, a3, a4⟩ := sr_mxI h h1 h2 (c := c) hs (sr_zo kp + 1) (by omega)
  have hq : (sr_mx kp co go c sl (sr_zo kp + 1) / sr_pc kp co c).toInt = (sr_mx kp co go c sl (sr_zo kp + 1)).toInt / (sr_pc kp co c).toInt := by
    rw [Int32.toInt_div, Int.tdiv_eq_ediv_of_nonneg a1]
    have g1 : 0 ≤ (sr_mx kp co go c sl (sr_zo kp + 1)).toInt / (sr_pc kp co c).toInt := Int.ediv_nonneg a1 (by omega)
    have g2 : (sr_mx kp co go c sl (sr_zo kp + 1)).toInt / (sr_pc kp co c).toInt ≤ (sr_mx kp co go c sl (sr_zo kp + 1)).toInt := Int.ediv_le_self _ a1
    exact Int.bmod_eq_of_le (by omega) (by omega)
  generalize hM : (sr_mx kp co go c sl (sr_zo kp + 1)).toInt = M at *
  generalize hpc : (sr_pc kp co c).toInt = pp at *
  have hq0 : 0 ≤ M / pp := Int.ediv_nonneg a1 (by omega)
  have key : ∀ m : Nat, m ≤ 40 → (sr_pm kp co go c sl m = true ↔ m ≤ (M / pp).toNat) := by
    intro m hm
    rw [sr_pmI h h1 h2 hs hm, hM, hpc, ← Int.le_ediv_iff_mul_le (by omega)]
    omega
  have hb := sr_gr_i key 40 (by omega)
  have e40 : (40 : Int32).toInt = 40 := rfl
  unfold sr_best
  refine Int32.toInt_inj.mp ?_
  rw [sr_nIi (by have := sr_gr_le (sr_pm kp co go c sl) 40; omega), hb]
  split <;> rename_i h9 <;> rw [Int32.lt_iff_toInt_lt, hq] at h9
  · rw [hq]
    split <;> omega
  · rw [e40]
    split <;> omega
theorem sr_best40 (kp : sr_M) (co go c : Nat) (sl : Int32) : sr_best kp co go c sl ≤ 40 := sr_gr_le _ _
/-- a mark is not out just where it is no greater than the best -/
theorem sr_bestE {kp : sr_M} (h : sr_IK kp) {co go c : Nat} (h1 : co < sr_cnt kp) (h2 : go < sr_cnt kp) {sl : Int32} (hs : sr_bs sl) {m : Nat} (hm : m ≤ 40) : sr_mt kp co go c (nI m) sl ≠ -1 ↔ m ≤ sr_best kp co go c sl := by
  have hz := sr_IK_zo5 h
  have p := sr_pcI h h1 c
  obtain ⟨a1, a2, a3, a4⟩ := sr_mxI h h1 h2 (c := c) hs (sr_zo kp + 1) (by omega)
  have key : ∀ m : Nat, m ≤ 40 → (sr_pm kp co go c sl m = true ↔ m ≤ ((sr_mx kp co go c sl (sr_zo kp + 1)).toInt / (sr_pc kp co c).toInt).toNat) := by
    intro m hm
    rw [sr_pmI h h1 h2 hs hm, ← Int.le_ediv_iff_mul_le (by omega)]
    have hq0 : 0 ≤ (sr_mx kp co go c sl (sr_zo kp + 1)).toInt / (sr_pc kp co c).toInt := Int.ediv_nonneg a1 (by omega)
    omega
  have hb := sr_gr_i key 40 (by omega)
  have k := key m hm
  unfold sr_pm at k
  rw [decide_eq_true_iff] at k
  rw [k]
  unfold sr_best
  unfold sr_pm at hb ⊢
  rw [hb]
  split <;> omega
theorem sr_maxwa (kp : sr_M) (sl : Int32) : (if 0 < kp 2 2 + sl then kp 2 2 + sl else 0) = sr_wa kp sl := by
  unfold sr_wa
  have e0 : (0 : Int32).toInt = 0 := rfl
  by_cases h1 : 0 < kp 2 2 + sl <;> by_cases h2 : kp 2 2 + sl < 0
  · rw [Int32.lt_iff_toInt_lt] at h1 h2
    omega
  · rw [if_pos h1, if_neg h2]
  · rw [if_neg h1, if_pos h2]
  · rw [if_neg h1, if_neg h2]
    rw [Int32.lt_iff_toInt_lt] at h1 h2
    exact Int32.toInt_inj.mp (by omega)
def sr_leg (kp : sr_M) (co go c : Nat) (mk sl : Int32) : Int32 := if sr_mt kp co go c mk sl = -1 then -1 else sr_Dl kp co c mk sl + (if sr_mt kp co go c mk sl = 0 then kp 2 5 else 0)
def sr_kd (kp : sr_M) (m : Int32) : Int32 := if m = -1 then 3 else if m = 0 then 2 else if m < nI (sr_zo kp) - 2 then 0 else 1
theorem sr_pc1 {kp : sr_M} (h : sr_IK kp) {r : Nat} (hr : r < sr_cnt kp) (s : Nat) : (1 : Int32) ≤ sr_pc kp r s := by
  have := (sr_pcI h hr s).2.1
  rw [Int32.le_iff_toInt_le]
  exact this
theorem sr_pcz {kp : sr_M} (h : sr_IK kp) {r : Nat} (hr : r < sr_cnt kp) (s : Nat) : ¬ sr_pc kp r s = 0 := fun q => by
  have h1 := (sr_pcI h hr s).2.1
  rw [q] at h1
  exact absurd h1 (by decide)
theorem sr_b0n {m : Nat} (h : m ≤ 40) : sr_b0 (nI m) 40 := by
  unfold sr_b0
  rw [sr_nIi (by omega)]
  omega
theorem sr_bs0 : sr_bs 0 := by unfold sr_bs; decide
theorem sr_bsp {kp : sr_M} (h : sr_IK kp) {i : Nat} (hi : i < 5) : sr_bs ((nI i - 2) * kp 2 6) := by
  have r := sr_IK_r h (j := 6) (by omega) (by omega)
  have m6 : sr_mo 6 = 30 := rfl
  have e2 : (2 : Int32).toInt = 2 := rfl
  have a1 : (nI i - 2).toInt = (i : Int) - 2 := by rw [sr_subI, sr_nIi (by omega), e2] <;> rw [sr_nIi (by omega)] <;> omega
  have b := sr_mulb (x := (i : Int) - 2) (y := (kp 2 6).toInt) (A := 2) (B := 30) (by omega) (by omega) (by omega) (by omega)
  unfold sr_bs
  rw [sr_mulI 2 30, a1] <;> omega
end
section
set_option maxRecDepth 100000 in
set_option maxHeartbeats 4000000 in
theorem cc_J9_min_7cf53 {l : Launch} {D : va_G} {cI cR : ClassId} {a : Nat → Nat} (ha : ∀ i j, i < 36 → j < 36 → a i = a j → i = j) {kp cx sg : sr_M} (x : Int32) (y : Int32) : sr_P l D (sr_tC cI cR) (sr_ZC a) (sr_WC cI cR a kp cx sg) yJ9_min_7cf53 cJ9_min_7cf53 2 (some .int) 0 0 [.int x, .int y] (some (.int (if y < x then y else x))) := by
  refine sr_Pie (by decide +kernel) (Nat.le_of_ble_eq_true rfl) (fun p e s m args below meth c ls Q B hret => ?_)
  obtain ⟨C0, hP, hK, hZ0, hl⟩ := B
  have hZ : sr_Zok (sr_AC a) (sr_ZC a) := sr_ZCok a
  have hS : va_S (sr_AC a) s.heap s.heap [] := va_S.rf
  have hl : lv_has ls 2 [(0, .int x), (1, .int y)] := hl
  refine lv_iload_n C0.1 C0.2.1 dJ9_min_7cf53_0 rfl (lv_at hl 0 rfl) ?_
  refine lv_iload_n C0.1 C0.2.1 dJ9_min_7cf53_1 rfl (lv_at hl 1 rfl) ?_
  refine lv_icmp_gt (tgt := 9) C0.1 C0.2.1 dJ9_min_7cf53_2 (by decide) (fun c2 => ?_) (fun c2 => ?_)
  · refine lv_iload_n C0.1 C0.2.1 dJ9_min_7cf53_9 rfl (lv_at hl 1 rfl) ?_
    exact hret _ _ _ dJ9_min_7cf53_10 (by first | exact (if_pos (by assumption)).symm | exact (if_neg (by assumption)).symm)
  · refine lv_iload_n C0.1 C0.2.1 dJ9_min_7cf53_5 rfl (lv_at hl 0 rfl) ?_
    refine lv_goto (tgt := 10) C0.1 C0.2.1 dJ9_min_7cf53_6 (by decide) ?_
    exact hret _ _ _ dJ9_min_7cf53_10 (by first | exact (if_pos (by assumption)).symm | exact (if_neg (by assumption)).symm)
set_option maxRecDepth 100000 in
set_option maxHeartbeats 4000000 in
theorem cc_J9_max_7cf53 {l : Launch} {D : va_G} {cI cR : ClassId} {a : Nat → Nat} (ha : ∀ i j, i < 36 → j < 36 → a i = a j → i = j) {kp cx sg : sr_M} (x : Int32) (y : Int32) : sr_P l D (sr_tC cI cR) (sr_ZC a) (sr_WC cI cR a kp cx sg) yJ9_max_7cf53 cJ9_max_7cf53 2 (some .int) 0 0 [.int x, .int y] (some (.int (if x < y then y else x))) := by
  refine sr_Pie (by decide +kernel) (Nat.le_of_ble_eq_true rfl) (fun p e s m args below meth c ls Q B hret => ?_)
  obtain ⟨C0, hP, hK, hZ0, hl⟩ := B
  have hZ : sr_Zok (sr_AC a) (sr_ZC a) := sr_ZCok a
  have hS : va_S (sr_AC a) s.heap s.heap [] := va_S.rf
  have hl : lv_has ls 2 [(0, .int x), (1, .int y)] := hl
  refine lv_iload_n C0.1 C0.2.1 dJ9_max_7cf53_0 rfl (lv_at hl 0 rfl) ?_
  refine lv_iload_n C0.1 C0.2.1 dJ9_max_7cf53_1 rfl (lv_at hl 1 rfl) ?_
  refine lv_icmp_lt (tgt := 9) C0.1 C0.2.1 dJ9_max_7cf53_2 (by decide) (fun c2 => ?_) (fun c2 => ?_)
  · refine lv_iload_n C0.1 C0.2.1 dJ9_max_7cf53_9 rfl (lv_at hl 1 rfl) ?_
    exact hret _ _ _ dJ9_max_7cf53_10 (by first | exact (if_pos (by assumption)).symm | exact (if_neg (by assumption)).symm)
  · refine lv_iload_n C0.1 C0.2.1 dJ9_max_7cf53_5 rfl (lv_at hl 0 rfl) ?_
    refine lv_goto (tgt := 10) C0.1 C0.2.1 dJ9_max_7cf53_6 (by decide) ?_
    exact hret _ _ _ dJ9_max_7cf53_10 (by first | exact (if_pos (by assumption)).symm | exact (if_neg (by assumption)).symm)
set_option maxRecDepth 100000 in
set_option maxHeartbeats 4000000 in
theorem cc_X7_outside {l : Launch} {D : va_G} {cI cR : ClassId} {a : Nat → Nat} (ha : ∀ i j, i < 36 → j < 36 → a i = a j → i = j) {kp cx sg : sr_M} (v : Int32) (lo : Int32) (hi : Int32) : sr_P l D (sr_tC cI cR) (sr_ZC a) (sr_WC cI cR a kp cx sg) yX7_outside cX7_outside 3 (some .boolean) 0 0 [.int v, .int lo, .int hi] (some (.int (if v < lo ∨ hi < v then 1 else 0))) := by
  refine sr_Pze (by decide +kernel) (Nat.le_of_ble_eq_true rfl) (fun p e s m args below meth c ls Q B hret => ?_)
  obtain ⟨C0, hP, hK, hZ0, hl⟩ := B
  have hZ : sr_Zok (sr_AC a) (sr_ZC a) := sr_ZCok a
  have hS : va_S (sr_AC a) s.heap s.heap [] := va_S.rf
  have hl : lv_has ls 3 [(0, .int v), (1, .int lo), (2, .int hi)] := hl
  refine lv_iload_n C0.1 C0.2.1 dX7_outside_0 rfl (lv_at hl 0 rfl) ?_
  refine lv_iload_n C0.1 C0.2.1 dX7_outside_1 rfl (lv_at hl 1 rfl) ?_
  refine lv_icmp_lt (tgt := 10) C0.1 C0.2.1 dX7_outside_2 (by decide) (fun c2 => ?_) (fun c2 => ?_)
  · refine lv_iconst (v := 1) C0.1 C0.2.1 dX7_outside_10 (by decide) ?_
    refine lv_goto (tgt := 15) C0.1 C0.2.1 dX7_outside_11 (by decide) ?_
    exact hret _ _ _ dX7_outside_15 (by first | exact (if_pos (Or.inl (by assumption))).symm | exact (if_pos (Or.inr (Int32.not_le.mp (by assumption)))).symm | exact (if_neg (fun q => q.elim (by assumption) (Int32.not_lt.mpr (by assumption)))).symm)
  · refine lv_iload_n C0.1 C0.2.1 dX7_outside_5 rfl (lv_at hl 0 rfl) ?_
    refine lv_iload_n C0.1 C0.2.1 dX7_outside_6 rfl (lv_at hl 2 rfl) ?_
    refine lv_icmp_le (tgt := 14) C0.1 C0.2.1 dX7_outside_7 (by decide) (fun c7 => ?_) (fun c7 => ?_)
    · refine lv_iconst (v := 0) C0.1 C0.2.1 dX7_outside_14 (by decide) ?_
      exact hret _ _ _ dX7_outside_15 (by first | exact (if_pos (Or.inl (by assumption))).symm | exact (if_pos (Or.inr (Int32.not_le.mp (by assumption)))).symm | exact (if_neg (fun q => q.elim (by assumption) (Int32.not_lt.mpr (by assumption)))).symm)
    · refine lv_iconst (v := 1) C0.1 C0.2.1 dX7_outside_10 (by decide) ?_
      refine lv_goto (tgt := 15) C0.1 C0.2.1 dX7_outside_11 (by decide) ?_
      exact hret _ _ _ dX7_outside_15 (by first | exact (if_pos (Or.inl (by assumption))).symm | exact (if_pos (Or.inr (Int32.not_le.mp (by assumption)))).symm | exact (if_neg (fun q => q.elim (by assumption) (Int32.not_lt.mpr (by assumption)))).symm)
set_option maxRecDepth 100000 in
set_option maxHeartbeats 4000000 in
theorem cc_X6_span {l : Launch} {D : va_G} {cI cR : ClassId} {a : Nat → Nat} (ha : ∀ i j, i < 36 → j < 36 → a i = a j → i = j) {kp cx sg : sr_M} (r : Nat) (u : Nat) (y : Int32) (hI : sr_IC kp cx) (hr_r : r < sr_cnt kp) (hs_u : u < 4) : sr_P l D (sr_tC cI cR) (sr_ZC a) (sr_WC cI cR a kp cx sg) yX6_span cX6_span 5 (some .int) 1 21 [.ref (a 2), .int (nI r), .int (nI u), .int y] (some (.int (sr_T kp r u y))) := by
  refine sr_Pie (by decide +kernel) (Nat.le_of_ble_eq_true rfl) (fun p e s m args below meth c ls Q B hret => ?_)
  obtain ⟨C0, hP, hK, hZ0, hl⟩ := B
  have hZ : sr_Zok (sr_AC a) (sr_ZC a) := sr_ZCok a
  have hS : va_S (sr_AC a) s.heap s.heap [] := va_S.rf
  have hl : lv_has ls 5 [(0, .ref (a 2)), (1, .int (nI r)), (2, .int (nI u)), (3, .int y)] := hl
  have := sr_cnt5 kp
  refine lv_iload_n C0.1 C0.2.1 dX6_span_0 rfl (lv_at hl 3 rfl) ?_
  refine lv_iconst (v := 4) C0.1 C0.2.1 dX6_span_1 (by decide) ?_
  refine lv_aload_n C0.1 C0.2.1 dX6_span_2 rfl (lv_at hl 0 rfl) ?_
  refine sr_get (v := .ref (a 1)) C0 hK hP sr_inX6 sr_wC2 rfl 0 (by decide) sw_69 rfl dX6_span_3 ?_
  refine sr_get (v := .ref (a 11)) C0 hK hP sr_inX4 sr_wC1 rfl 3 (by decide) sw_34 rfl dX6_span_6 ?_
  refine lv_iload_n C0.1 C0.2.1 dX6_span_9 rfl (lv_at hl 1 rfl) ?_
  refine sr_ald (k := r) C0 hK rfl hP sr_wC11 (nI_clamp (by omega)) (vp_in_nI (by omega) (by omega)) dX6_span_10 ?_
  refine sr_chi (sr_IC_f2 hI (by first | assumption | omega | exact sr_th_at hT (by omega))) ?_
  refine lv_imul C0.1 C0.2.1 dX6_span_11 ?_
  refine sr_pSi (As := [.int y, .int (4 * (sr_fig kp r 2))]) C0 hK hP hZ hZ0 (cc_J9_min_7cf53 ha y (4 * (sr_fig kp r 2))) sk_J9_min_7cf53 (ss_J9_min_7cf53) sw_333 rfl rfl hl.1 (Nat.le_of_ble_eq_true rfl) (Nat.le_of_ble_eq_true rfl) (Nat.le_of_ble_eq_true rfl) dX6_span_12 ⟨Nat.zero_le _, Nat.zero_le _⟩ ?_
  refine lv_istore (lv' := [(4, .int (if (4 * (sr_fig kp r 2)) < y then (4 * (sr_fig kp r 2)) else y)), (0, .ref (a 2)), (1, .int (nI r)), (2, .int (nI u)), (3, .int y)]) C0.1 C0.2.1 dX6_span_15 hl (by decide) rfl (fun ls hl => ?_)
  refine lv_iload_n C0.1 C0.2.1 dX6_span_17 rfl (lv_at hl 4 rfl) ?_
  refine lv_aload_n C0.1 C0.2.1 dX6_span_18 rfl (lv_at hl 1 rfl) ?_
  refine sr_get (v := .ref (a 14)) C0 hK hP sr_inX6 sr_wC2 rfl 2 (by decide) sw_73 rfl dX6_span_19 ?_
  refine lv_iload_n C0.1 C0.2.1 dX6_span_22 rfl (lv_at hl 3 rfl) ?_
  refine sr_ald (k := u) C0 hK rfl hP sr_wC14 (nI_clamp (by omega)) (vp_in_nI (by omega) (by omega)) dX6_span_23 ?_
  refine sr_chi (sr_IC_ex hI (by omega)) ?_
  refine lv_imul C0.1 C0.2.1 dX6_span_24 ?_
  refine lv_iload C0.1 C0.2.1 dX6_span_25 (lv_at hl 0 rfl) ?_
  refine lv_aload_n C0.1 C0.2.1 dX6_span_27 rfl (lv_at hl 1 rfl) ?_
  refine sr_get (v := .ref (a 1)) C0 hK hP sr_inX6 sr_wC2 rfl 0 (by decide) sw_69 rfl dX6_span_28 ?_
  refine sr_get (v := .ref (a 10)) C0 hK hP sr_inX4 sr_wC1 rfl 2 (by decide) sw_32 rfl dX6_span_31 ?_
  refine lv_iload_n C0.1 C0.2.1 dX6_span_34 rfl (lv_at hl 2 rfl) ?_
  refine sr_ald (k := r) C0 hK rfl hP sr_wC10 (nI_clamp (by omega)) (vp_in_nI (by omega) (by omega)) dX6_span_35 ?_
  refine sr_chi (sr_IC_f1 hI (by first | assumption | omega | exact sr_th_at hT (by omega))) ?_
  refine lv_imul C0.1 C0.2.1 dX6_span_36 ?_
  refine lv_iadd C0.1 C0.2.1 dX6_span_37 ?_
  refine lv_iload_n C0.1 C0.2.1 dX6_span_38 rfl (lv_at hl 4 rfl) ?_
  refine lv_iload C0.1 C0.2.1 dX6_span_39 (lv_at hl 0 rfl) ?_
  refine lv_isub C0.1 C0.2.1 dX6_span_41 ?_
  refine lv_aload_n C0.1 C0.2.1 dX6_span_42 rfl (lv_at hl 1 rfl) ?_
  refine sr_get (v := .ref (a 1)) C0 hK hP sr_inX6 sr_wC2 rfl 0 (by decide) sw_69 rfl dX6_span_43 ?_
  refine sr_get (v := .ref (a 9)) C0 hK hP sr_inX4 sr_wC1 rfl 1 (by decide) sw_30 rfl dX6_span_46 ?_
  refine lv_iload_n C0.1 C0.2.1 dX6_span_49 rfl (lv_at hl 2 rfl) ?_
  refine sr_ald (k := r) C0 hK rfl hP sr_wC9 (nI_clamp (by omega)) (vp_in_nI (by omega) (by omega)) dX6_span_50 ?_
  refine sr_chi (sr_IC_f0 hI (by first | assumption | omega | exact sr_th_at hT (by omega))) ?_
  refine lv_imul C0.1 C0.2.1 dX6_span_51 ?_
  refine lv_iadd C0.1 C0.2.1 dX6_span_52 ?_
  exact hret _ _ _ dX6_span_53 (sr_spanT kp r u y)
set_option maxRecDepth 100000 in
set_option maxHeartbeats 4000000 in
theorem cc_X6_pace {l : Launch} {D : va_G} {cI cR : ClassId} {a : Nat → Nat} (ha : ∀ i j, i < 36 → j < 36 → a i = a j → i = j) {kp cx sg : sr_M} (r : Nat) (u : Nat) (hI : sr_IC kp cx) (hr_r : r < sr_cnt kp) (hs_u : u < 4) : sr_P l D (sr_tC cI cR) (sr_ZC a) (sr_WC cI cR a kp cx sg) yX6_pace cX6_pace 3 (some .int) 0 0 [.ref (a 2), .int (nI r), .int (nI u)] (some (.int (sr_pc kp r u))) := by
  refine sr_Pie (by decide +kernel) (Nat.le_of_ble_eq_true rfl) (fun p e s m args below meth c ls Q B hret => ?_)
  obtain ⟨C0, hP, hK, hZ0, hl⟩ := B
  have hZ : sr_Zok (sr_AC a) (sr_ZC a) := sr_ZCok a
  have hS : va_S (sr_AC a) s.heap s.heap [] := va_S.rf
  have hl : lv_has ls 3 [(0, .ref (a 2)), (1, .int (nI r)), (2, .int (nI u))] := hl
  have := sr_cnt5 kp
  refine lv_aload_n C0.1 C0.2.1 dX6_pace_0 rfl (lv_at hl 0 rfl) ?_
  refine sr_get (v := .ref (a 1)) C0 hK hP sr_inX6 sr_wC2 rfl 0 (by decide) sw_69 rfl dX6_pace_1 ?_
  refine sr_get (v := .ref (a 9)) C0 hK hP sr_inX4 sr_wC1 rfl 1 (by decide) sw_30 rfl dX6_pace_4 ?_
  refine lv_iload_n C0.1 C0.2.1 dX6_pace_7 rfl (lv_at hl 1 rfl) ?_
  refine sr_ald (k := r) C0 hK rfl hP sr_wC9 (nI_clamp (by omega)) (vp_in_nI (by omega) (by omega)) dX6_pace_8 ?_
  refine sr_chi (sr_IC_f0 hI (by first | assumption | omega | exact sr_th_at hT (by omega))) ?_
  refine lv_aload_n C0.1 C0.2.1 dX6_pace_9 rfl (lv_at hl 0 rfl) ?_
  refine sr_get (v := .ref (a 14)) C0 hK hP sr_inX6 sr_wC2 rfl 2 (by decide) sw_73 rfl dX6_pace_10 ?_
  refine lv_iload_n C0.1 C0.2.1 dX6_pace_13 rfl (lv_at hl 2 rfl) ?_
  refine sr_ald (k := u) C0 hK rfl hP sr_wC14 (nI_clamp (by omega)) (vp_in_nI (by omega) (by omega)) dX6_pace_14 ?_
  refine sr_chi (sr_IC_ex hI (by omega)) ?_
  refine lv_iadd C0.1 C0.2.1 dX6_pace_15 ?_
  exact hret _ _ _ dX6_pace_16 rfl
set_option maxRecDepth 100000 in
set_option maxHeartbeats 4000000 in
theorem cc_X6_untilNext {l : Launch} {D : va_G} {cI cR : ClassId} {a : Nat → Nat} (ha : ∀ i j, i < 36 → j < 36 → a i = a j → i = j) {kp cx sg : sr_M} (cn : Nat) (co : Nat) (mk : Int32) (sl : Int32) (hI : sr_IC kp cx) (hr_co : co < sr_cnt kp) (hs_cn : cn < 4) : sr_P l D (sr_tC cI cR) (sr_ZC a) (sr_WC cI cR a kp cx sg) yX6_untilNext cX6_untilNext 5 (some .int) 2 45 [.ref (a 2), .int (nI cn), .int (nI co), .int mk, .int sl] (some (.int (sr_Dl kp co cn mk sl))) := by
  refine sr_Pie (by decide +kernel) (Nat.le_of_ble_eq_true rfl) (fun p e s m args below meth c ls Q B hret => ?_)
  obtain ⟨C0, hP, hK, hZ0, hl⟩ := B
  have hZ : sr_Zok (sr_AC a) (sr_ZC a) := sr_ZCok a
  have hS : va_S (sr_AC a) s.heap s.heap [] := va_S.rf
  have hl : lv_has ls 5 [(0, .ref (a 2)), (1, .int (nI cn)), (2, .int (nI co)), (3, .int mk), (4, .int sl)] := hl
  have := sr_cnt5 kp
  refine lv_aload_n C0.1 C0.2.1 dX6_untilNext_0 rfl (lv_at hl 0 rfl) ?_
  refine lv_iload_n C0.1 C0.2.1 dX6_untilNext_1 rfl (lv_at hl 2 rfl) ?_
  refine lv_iload_n C0.1 C0.2.1 dX6_untilNext_2 rfl (lv_at hl 1 rfl) ?_
  refine lv_bipush (v := 100) C0.1 C0.2.1 dX6_untilNext_3 (by decide) ?_
  refine lv_iload_n C0.1 C0.2.1 dX6_untilNext_5 rfl (lv_at hl 3 rfl) ?_
  refine lv_isub C0.1 C0.2.1 dX6_untilNext_6 ?_
  refine sr_pVi (As := [.int (nI co), .int (nI cn), .int (100 - mk)]) C0 hK hP hZ hZ0 (cc_X6_span ha co cn (100 - mk) hI (by first | omega | exact sr_th_at hT (by omega)) (by omega)) sk_X6_span sv_X6_span sw_350 (ci := 6) rfl sr_wC2 rfl rfl hl.1 (Nat.le_of_ble_eq_true rfl) (Nat.le_of_ble_eq_true rfl) (Nat.le_of_ble_eq_true rfl) dX6_untilNext_7 ⟨Nat.zero_le _, Nat.zero_le _⟩ ?_
  refine lv_iconst (v := 0) C0.1 C0.2.1 dX6_untilNext_10 (by decide) ?_
  refine lv_aload_n C0.1 C0.2.1 dX6_untilNext_11 rfl (lv_at hl 0 rfl) ?_
  refine sr_get (v := .ref (a 13)) C0 hK hP sr_inX6 sr_wC2 rfl 1 (by decide) sw_70 rfl dX6_untilNext_12 ?_
  refine lv_iconst (v := 2) C0.1 C0.2.1 dX6_untilNext_15 (by decide) ?_
  refine sr_ald (k := 2) C0 hK rfl hP sr_wC13 (by decide) (sr_inc (by decide)) dX6_untilNext_16 ?_
  refine lv_iload C0.1 C0.2.1 dX6_untilNext_17 (lv_at hl 4 rfl) ?_
  refine lv_iadd C0.1 C0.2.1 dX6_untilNext_19 ?_
  refine sr_pSi (As := [.int 0, .int ((kp 2 2) + sl)]) C0 hK hP hZ hZ0 (cc_J9_max_7cf53 ha (0) ((kp 2 2) + sl)) sk_J9_max_7cf53 (ss_J9_max_7cf53) sw_351 rfl rfl hl.1 (Nat.le_of_ble_eq_true rfl) (Nat.le_of_ble_eq_true rfl) (Nat.le_of_ble_eq_true rfl) dX6_untilNext_20 ⟨Nat.zero_le _, Nat.zero_le _⟩ ?_
  refine lv_iadd C0.1 C0.2.1 dX6_untilNext_23 ?_
  exact hret _ _ _ dX6_untilNext_24 (by rw [sr_maxwa]; rfl)
set_option maxRecDepth 100000 in
set_option maxHeartbeats 4000000 in
theorem cc_X6_headroom {l : Launch} {D : va_G} {cI cR : ClassId} {a : Nat → Nat} (ha : ∀ i j, i < 36 → j < 36 → a i = a j → i = j) {kp cx sg : sr_M} (cn : Nat) (co : Nat) (go : Nat) (sl : Int32) (x : Nat) (hI : sr_IC kp cx) (hr_co : co < sr_cnt kp) (hr_go : go < sr_cnt kp) (hs_cn : cn < 3) : sr_P l D (sr_tC cI cR) (sr_ZC a) (sr_WC cI cR a kp cx sg) yX6_headroom cX6_headroom 7 (some .int) 2 45 [.ref (a 2), .int (nI cn), .int (nI co), .int (nI go), .int sl, .int (nI x)] (some (.int (sr_hr kp co go cn sl x))) := by
  refine sr_Pie (by decide +kernel) (Nat.le_of_ble_eq_true rfl) (fun p e s m args below meth c ls Q B hret => ?_)
  obtain ⟨C0, hP, hK, hZ0, hl⟩ := B
  have hZ : sr_Zok (sr_AC a) (sr_ZC a) := sr_ZCok a
  have hS : va_S (sr_AC a) s.heap s.heap [] := va_S.rf
  have hl : lv_has ls 7 [(0, .ref (a 2)), (1, .int (nI cn)), (2, .int (nI co)), (3, .int (nI go)), (4, .int sl), (5, .int (nI x))] := hl
  have := sr_cnt5 kp
  refine lv_iconst (v := 0) C0.1 C0.2.1 dX6_headroom_0 (by decide) ?_
  refine lv_aload_n C0.1 C0.2.1 dX6_headroom_1 rfl (lv_at hl 0 rfl) ?_
  refine sr_get (v := .ref (a 13)) C0 hK hP sr_inX6 sr_wC2 rfl 1 (by decide) sw_70 rfl dX6_headroom_2 ?_
  refine lv_iconst (v := 2) C0.1 C0.2.1 dX6_headroom_5 (by decide) ?_
  refine sr_ald (k := 2) C0 hK rfl hP sr_wC13 (by decide) (sr_inc (by decide)) dX6_headroom_6 ?_
  refine lv_iload C0.1 C0.2.1 dX6_headroom_7 (lv_at hl 4 rfl) ?_
  refine lv_iadd C0.1 C0.2.1 dX6_headroom_9 ?_
  refine sr_pSi (As := [.int 0, .int ((kp 2 2) + sl)]) C0 hK hP hZ hZ0 (cc_J9_max_7cf53 ha (0) ((kp 2 2) + sl)) sk_J9_max_7cf53 (ss_J9_max_7cf53) sw_351 rfl rfl hl.1 (Nat.le_of_ble_eq_true rfl) (Nat.le_of_ble_eq_true rfl) (Nat.le_of_ble_eq_true rfl) dX6_headroom_10 ⟨Nat.zero_le _, Nat.zero_le _⟩ ?_
  refine lv_istore (lv' := [(6, .int (if 0 < ((kp 2 2) + sl) then ((kp 2 2) + sl) else 0)), (0, .ref (a 2)), (1, .int (nI cn)), (2, .int (nI co)), (3, .int (nI go)), (4, .int sl), (5, .int (nI x))]) C0.1 C0.2.1 dX6_headroom_13 hl (by decide) rfl (fun ls hl => ?_)
  refine lv_iload C0.1 C0.2.1 dX6_headroom_15 (lv_at hl 0 rfl) ?_
  refine lv_aload_n C0.1 C0.2.1 dX6_headroom_17 rfl (lv_at hl 1 rfl) ?_
  refine lv_iload_n C0.1 C0.2.1 dX6_headroom_18 rfl (lv_at hl 4 rfl) ?_
  refine lv_iload_n C0.1 C0.2.1 dX6_headroom_19 rfl (lv_at hl 2 rfl) ?_
  refine lv_iconst (v := 1) C0.1 C0.2.1 dX6_headroom_20 (by decide) ?_
  refine lv_iadd C0.1 C0.2.1 dX6_headroom_21 ?_
  refine sr_chi (nI_add cn 1) ?_
  refine lv_iload C0.1 C0.2.1 dX6_headroom_22 (lv_at hl 6 rfl) ?_
  refine sr_pVi (As := [.int (nI go), .int (nI (cn + 1)), .int (nI x)]) C0 hK hP hZ hZ0 (cc_X6_span ha go (cn + 1) (nI x) hI (by first | omega | exact sr_th_at hT (by omega)) (by omega)) sk_X6_span sv_X6_span sw_350 (ci := 6) rfl sr_wC2 rfl rfl hl.1 (Nat.le_of_ble_eq_true rfl) (Nat.le_of_ble_eq_true rfl) (Nat.le_of_ble_eq_true rfl) dX6_headroom_24 ⟨Nat.zero_le _, Nat.zero_le _⟩ ?_
  refine lv_iadd C0.1 C0.2.1 dX6_headroom_27 ?_
  refine lv_iload C0.1 C0.2.1 dX6_headroom_28 (lv_at hl 6 rfl) ?_
  refine lv_aload_n C0.1 C0.2.1 dX6_headroom_30 rfl (lv_at hl 1 rfl) ?_
  refine sr_get (v := .ref (a 13)) C0 hK hP sr_inX6 sr_wC2 rfl 1 (by decide) sw_70 rfl dX6_headroom_31 ?_
  refine lv_iconst (v := 1) C0.1 C0.2.1 dX6_headroom_34 (by decide) ?_
  refine sr_ald (k := 1) C0 hK rfl hP sr_wC13 (by decide) (sr_inc (by decide)) dX6_headroom_35 ?_
  refine lv_isub C0.1 C0.2.1 dX6_headroom_36 ?_
  refine lv_aload_n C0.1 C0.2.1 dX6_headroom_37 rfl (lv_at hl 1 rfl) ?_
  refine lv_iload_n C0.1 C0.2.1 dX6_headroom_38 rfl (lv_at hl 3 rfl) ?_
  refine lv_iload_n C0.1 C0.2.1 dX6_headroom_39 rfl (lv_at hl 2 rfl) ?_
  refine sr_pVi (As := [.int (nI co), .int (nI cn)]) C0 hK hP hZ hZ0 (cc_X6_pace ha co cn hI (by first | omega | exact sr_th_at hT (by omega)) (by omega)) sk_X6_pace sv_X6_pace sw_366 (ci := 6) rfl sr_wC2 rfl rfl hl.1 (Nat.le_of_ble_eq_true rfl) (Nat.le_of_ble_eq_true rfl) (Nat.le_of_ble_eq_true rfl) dX6_headroom_40 ⟨Nat.zero_le _, Nat.zero_le _⟩ ?_
  refine lv_imul C0.1 C0.2.1 dX6_headroom_43 ?_
  refine lv_isub C0.1 C0.2.1 dX6_headroom_44 ?_
  exact hret _ _ _ dX6_headroom_45 (by rw [sr_maxwa]; rfl)
set_option maxRecDepth 100000 in
set_option maxHeartbeats 4000000 in
theorem cc_X6_meeting {l : Launch} {D : va_G} {cI cR : ClassId} {a : Nat → Nat} (ha : ∀ i j, i < 36 → j < 36 → a i = a j → i = j) {kp cx sg : sr_M} (cn : Nat) (co : Nat) (go : Nat) (mk : Int32) (sl : Int32) (hI : sr_IC kp cx) (hr_co : co < sr_cnt kp) (hr_go : go < sr_cnt kp) (hs_cn : cn < 3) (hb_mk : sr_b0 mk 40) (hl_sl : sr_bs sl) : sr_P l D (sr_tC cI cR) (sr_ZC a) (sr_WC cI cR a kp cx sg) yX6_meeting cX6_meeting 8 (some .int) 3 71 [.ref (a 2), .int (nI cn), .int (nI co), .int (nI go), .int mk, .int sl] (some (.int (sr_mt kp co go cn mk sl))) := by
  refine sr_Pie (by decide +kernel) (Nat.le_of_ble_eq_true rfl) (fun p e s m args below meth c ls Q B hret => ?_)
  obtain ⟨C0, hP, hK, hZ0, hl⟩ := B
  have hZ : sr_Zok (sr_AC a) (sr_ZC a) := sr_ZCok a
  have hS : va_S (sr_AC a) s.heap s.heap [] := va_S.rf
  have hl : lv_has ls 8 [(0, .ref (a 2)), (1, .int (nI cn)), (2, .int (nI co)), (3, .int (nI go)), (4, .int mk), (5, .int sl)] := hl
  have := sr_cnt5 kp
  have hz := sr_IK_zo5 (sr_IC_K hI)
  refine lv_iload C0.1 C0.2.1 dX6_meeting_0 (lv_at hl 4 rfl) ?_
  refine lv_aload_n C0.1 C0.2.1 dX6_meeting_2 rfl (lv_at hl 0 rfl) ?_
  refine lv_iload_n C0.1 C0.2.1 dX6_meeting_3 rfl (lv_at hl 2 rfl) ?_
  refine lv_iload_n C0.1 C0.2.1 dX6_meeting_4 rfl (lv_at hl 1 rfl) ?_
  refine sr_pVi (As := [.int (nI co), .int (nI cn)]) C0 hK hP hZ hZ0 (cc_X6_pace ha co cn hI (by first | omega | exact sr_th_at hT (by omega)) (by omega)) sk_X6_pace sv_X6_pace sw_366 (ci := 6) rfl sr_wC2 rfl rfl hl.1 (Nat.le_of_ble_eq_true rfl) (Nat.le_of_ble_eq_true rfl) (Nat.le_of_ble_eq_true rfl) dX6_meeting_5 ⟨Nat.zero_le _, Nat.zero_le _⟩ ?_
  refine lv_imul C0.1 C0.2.1 dX6_meeting_8 ?_
  refine lv_istore (lv' := [(6, .int (mk * (sr_pc kp co cn))), (0, .ref (a 2)), (1, .int (nI cn)), (2, .int (nI co)), (3, .int (nI go)), (4, .int mk), (5, .int sl)]) C0.1 C0.2.1 dX6_meeting_9 hl (by decide) rfl (fun ls hl => ?_)
  refine lv_iconst (v := 0) C0.1 C0.2.1 dX6_meeting_11 (by decide) ?_
  refine lv_istore (lv' := [(7, .int 0), (6, .int (mk * (sr_pc kp co cn))), (0, .ref (a 2)), (1, .int (nI cn)), (2, .int (nI co)), (3, .int (nI go)), (4, .int mk), (5, .int sl)]) C0.1 C0.2.1 dX6_meeting_12 hl (by decide) rfl (fun ls hl => ?_)
  have lp14 : ∀ (n : Nat) (i : Nat) (ls : Array Slot), i ≤ sr_zo kp + 1 → sr_zo kp + 2 ≤ i + n → sr_mt kp co go cn mk sl = sr_fx (sr_mp kp co go cn mk sl) (sr_zo kp + 1 - i) i → lv_has ls 8 [(7, .int (nI i)), (6, .int (mk * (sr_pc kp co cn))), (0, .ref (a 2)), (1, .int (nI cn)), (2, .int (nI co)), (3, .int (nI go)), (4, .int mk), (5, .int sl)] → W p l e (sr_rm 3 71) s m args below meth c s.heap [] 0 0 Q (F0 m 14 ls []) := by
    intro n
    induction n with
    | zero =>
      intro i ls h_i h_n h_f hl
      exact absurd h_n (by omega)
    | succ n ih =>
      intro i ls h_i h_n h_f hl
      refine lv_iload C0.1 C0.2.1 dX6_meeting_14 (lv_at hl 0 rfl) ?_
      refine lv_aload_n C0.1 C0.2.1 dX6_meeting_16 rfl (lv_at hl 2 rfl) ?_
      refine sr_get (v := .ref (a 13)) C0 hK hP sr_inX6 sr_wC2 rfl 1 (by decide) sw_70 rfl dX6_meeting_17 ?_
      refine lv_iconst (v := 0) C0.1 C0.2.1 dX6_meeting_20 (by decide) ?_
      refine sr_ald (k := 0) C0 hK rfl hP sr_wC13 (by decide) (sr_inc (by decide)) dX6_meeting_21 ?_
      refine sr_chi (sr_IK_zo (sr_IC_K hI)) ?_
      have := sr_IK_zo5 (sr_IC_K hI)
      refine lv_icmp_gt (tgt := 50) C0.1 C0.2.1 dX6_meeting_22 (by decide) (fun c22 => ?_) (fun c22 => ?_)
      · have g22 : (sr_zo kp) < i := (nI_ltI (a := (sr_zo kp)) (b := i) (by omega) (by omega)).mp c22
        refine lv_iconst (v := (-1)) C0.1 C0.2.1 dX6_meeting_50 (by decide) ?_
        exact hret _ _ _ dX6_meeting_51 (by rw [h_f, show sr_zo kp + 1 - i = 0 by omega]; rfl)
      · have g22 : ¬ ((sr_zo kp) < i) := fun q => c22 ((nI_ltI (a := (sr_zo kp)) (b := i) (by omega) (by omega)).mpr q)
        refine lv_aload_n C0.1 C0.2.1 dX6_meeting_25 rfl (lv_at hl 2 rfl) ?_
        refine lv_iload_n C0.1 C0.2.1 dX6_meeting_26 rfl (lv_at hl 3 rfl) ?_
        refine lv_iload_n C0.1 C0.2.1 dX6_meeting_27 rfl (lv_at hl 4 rfl) ?_
        refine lv_iload_n C0.1 C0.2.1 dX6_meeting_28 rfl (lv_at hl 5 rfl) ?_
        refine lv_iload C0.1 C0.2.1 dX6_meeting_29 (lv_at hl 7 rfl) ?_
        refine lv_iload C0.1 C0.2.1 dX6_meeting_31 (lv_at hl 0 rfl) ?_
        refine sr_pVi (As := [.int (nI cn), .int (nI co), .int (nI go), .int sl, .int (nI i)]) C0 hK hP hZ hZ0 (cc_X6_headroom ha cn co go sl i hI (by first | omega | exact sr_th_at hT (by omega)) (by first | omega | exact sr_th_at hT (by omega)) (by omega)) sk_X6_headroom sv_X6_headroom sw_370 (ci := 6) rfl sr_wC2 rfl rfl hl.1 (Nat.le_of_ble_eq_true rfl) (Nat.le_of_ble_eq_true rfl) (Nat.le_of_ble_eq_true rfl) dX6_meeting_33 ⟨Nat.zero_le _, Nat.zero_le _⟩ ?_
        refine lv_iload C0.1 C0.2.1 dX6_meeting_36 (lv_at hl 1 rfl) ?_
        refine lv_icmp_lt (tgt := 44) C0.1 C0.2.1 dX6_meeting_38 (by decide) (fun c38 => ?_) (fun c38 => ?_)
        · have hno : ¬ sr_mp kp co go cn mk sl i = true := fun q => absurd ((sr_hd (sr_IC_K hI) hr_co hr_go hb_mk hl_sl (by omega)).mpr q) (Int32.not_le.mpr c38)
          refine lv_iinc (v := (nI (i + 1))) (lv' := [(7, .int (nI (i + 1))), (6, .int (mk * (sr_pc kp co cn))), (0, .ref (a 2)), (1, .int (nI cn)), (2, .int (nI co)), (3, .int (nI go)), (4, .int mk), (5, .int sl)]) C0.1 C0.2.1 dX6_meeting_44 hl (k := 0) rfl (nI_1 i) (by decide) rfl (fun ls hl => ?_)
          refine lv_goto (tgt := 14) C0.1 C0.2.1 dX6_meeting_47 (by decide) ?_
          exact ih (i + 1) _ (by omega) (by omega) (by rw [h_f, sr_fx_s (by omega), if_neg hno]) (lv_sub hl [0, 1, 2, 3, 4, 5, 6, 7] rfl)
        · refine lv_iload C0.1 C0.2.1 dX6_meeting_41 (lv_at hl 0 rfl) ?_
          exact hret _ _ _ dX6_meeting_43 (by rw [h_f, sr_fx_s (by omega), if_pos ((sr_hd (sr_IC_K hI) hr_co hr_go hb_mk hl_sl (by omega)).mp (Int32.not_lt.mp c38))])
  exact lp14 (sr_zo kp + 2) 0 _ (by omega) (by omega) rfl (lv_sub hl [0, 1, 2, 3, 4, 5, 6, 7] rfl)
set_option maxRecDepth 100000 in
set_option maxHeartbeats 4000000 in
theorem cc_X6_farthest {l : Launch} {D : va_G} {cI cR : ClassId} {a : Nat → Nat} (ha : ∀ i j, i < 36 → j < 36 → a i = a j → i = j) {kp cx sg : sr_M} (cn : Nat) (co : Nat) (go : Nat) (sl : Int32) (hI : sr_IC kp cx) (hr_co : co < sr_cnt kp) (hr_go : go < sr_cnt kp) (hs_cn : cn < 3) (hl_sl : sr_bs sl) : sr_P l D (sr_tC cI cR) (sr_ZC a) (sr_WC cI cR a kp cx sg) yX6_farthest cX6_farthest 8 (some .int) 3 71 [.ref (a 2), .int (nI cn), .int (nI co), .int (nI go), .int sl] (some (.int (nI (sr_best kp co go cn sl)))) := by
  refine sr_Pie (by decide +kernel) (Nat.le_of_ble_eq_true rfl) (fun p e s m args below meth c ls Q B hret => ?_)
  obtain ⟨C0, hP, hK, hZ0, hl⟩ := B
  have hZ : sr_Zok (sr_AC a) (sr_ZC a) := sr_ZCok a
  have hS : va_S (sr_AC a) s.heap s.heap [] := va_S.rf
  have hl : lv_has ls 8 [(0, .ref (a 2)), (1, .int (nI cn)), (2, .int (nI co)), (3, .int (nI go)), (4, .int sl)] := hl
  have := sr_cnt5 kp
  have hz := sr_IK_zo5 (sr_IC_K hI)
  refine lv_aload_n C0.1 C0.2.1 dX6_farthest_0 rfl (lv_at hl 0 rfl) ?_
  refine lv_iload_n C0.1 C0.2.1 dX6_farthest_1 rfl (lv_at hl 2 rfl) ?_
  refine lv_iload_n C0.1 C0.2.1 dX6_farthest_2 rfl (lv_at hl 1 rfl) ?_
  refine sr_pVi (As := [.int (nI co), .int (nI cn)]) C0 hK hP hZ hZ0 (cc_X6_pace ha co cn hI (by first | omega | exact sr_th_at hT (by omega)) (by omega)) sk_X6_pace sv_X6_pace sw_366 (ci := 6) rfl sr_wC2 rfl rfl hl.1 (Nat.le_of_ble_eq_true rfl) (Nat.le_of_ble_eq_true rfl) (Nat.le_of_ble_eq_true rfl) dX6_farthest_3 ⟨Nat.zero_le _, Nat.zero_le _⟩ ?_
  refine lv_istore (lv' := [(5, .int (sr_pc kp co cn)), (0, .ref (a 2)), (1, .int (nI cn)), (2, .int (nI co)), (3, .int (nI go)), (4, .int sl)]) C0.1 C0.2.1 dX6_farthest_6 hl (by decide) rfl (fun ls hl => ?_)
  refine lv_iload C0.1 C0.2.1 dX6_farthest_8 (lv_at hl 0 rfl) ?_
  refine lv_iconst (v := 1) C0.1 C0.2.1 dX6_farthest_10 (by decide) ?_
  refine lv_icmp_ge (tgt := 16) C0.1 C0.2.1 dX6_farthest_11 (by decide) (fun c11 => ?_) (fun c11 => ?_)
  · refine lv_iconst (v := 0) C0.1 C0.2.1 dX6_farthest_16 (by decide) ?_
    refine lv_istore (lv' := [(6, .int 0), (5, .int (sr_pc kp co cn)), (0, .ref (a 2)), (1, .int (nI cn)), (2, .int (nI co)), (3, .int (nI go)), (4, .int sl)]) C0.1 C0.2.1 dX6_farthest_17 hl (by decide) rfl (fun ls hl => ?_)
    refine lv_iconst (v := 0) C0.1 C0.2.1 dX6_farthest_19 (by decide) ?_
    refine lv_istore (lv' := [(7, .int 0), (6, .int 0), (5, .int (sr_pc kp co cn)), (0, .ref (a 2)), (1, .int (nI cn)), (2, .int (nI co)), (3, .int (nI go)), (4, .int sl)]) C0.1 C0.2.1 dX6_farthest_20 hl (by decide) rfl (fun ls hl => ?_)
    have lp22 : ∀ (n : Nat) (i : Nat) (ls : Array Slot), i ≤ sr_zo kp + 1 → sr_zo kp + 2 ≤ i + n → lv_has ls 8 [(7, .int (nI i)), (6, .int (sr_mx kp co go cn sl i)), (5, .int (sr_pc kp co cn)), (0, .ref (a 2)), (1, .int (nI cn)), (2, .int (nI co)), (3, .int (nI go)), (4, .int sl)] → W p l e (sr_rm 3 71) s m args below meth c s.heap [] 0 0 Q (F0 m 22 ls []) := by
      intro n
      induction n with
      | zero =>
        intro i ls h_i h_n hl
        exact absurd h_n (by omega)
      | succ n ih =>
        intro i ls h_i h_n hl
        refine lv_iload C0.1 C0.2.1 dX6_farthest_22 (lv_at hl 0 rfl) ?_
        refine lv_aload_n C0.1 C0.2.1 dX6_farthest_24 rfl (lv_at hl 3 rfl) ?_
        refine sr_get (v := .ref (a 13)) C0 hK hP sr_inX6 sr_wC2 rfl 1 (by decide) sw_70 rfl dX6_farthest_25 ?_
        refine lv_iconst (v := 0) C0.1 C0.2.1 dX6_farthest_28 (by decide) ?_
        refine sr_ald (k := 0) C0 hK rfl hP sr_wC13 (by decide) (sr_inc (by decide)) dX6_farthest_29 ?_
        refine sr_chi (sr_IK_zo (sr_IC_K hI)) ?_
        have := sr_IK_zo5 (sr_IC_K hI)
        refine lv_icmp_gt (tgt := 57) C0.1 C0.2.1 dX6_farthest_30 (by decide) (fun c30 => ?_) (fun c30 => ?_)
        · have g30 : (sr_zo kp) < i := (nI_ltI (a := (sr_zo kp)) (b := i) (by omega) (by omega)).mp c30
          refine lv_bipush (v := 40) C0.1 C0.2.1 dX6_farthest_57 (by decide) ?_
          refine lv_iload C0.1 C0.2.1 dX6_farthest_59 (lv_at hl 1 rfl) ?_
          refine lv_iload C0.1 C0.2.1 dX6_farthest_61 (lv_at hl 2 rfl) ?_
          refine lv_idiv C0.1 C0.2.1 dX6_farthest_63 (sr_pcz (sr_IC_K hI) hr_co cn) ?_
          refine sr_pSi (As := [.int 40, .int ((sr_mx kp co go cn sl i) / (sr_pc kp co cn))]) C0 hK hP hZ hZ0 (cc_J9_min_7cf53 ha (40) ((sr_mx kp co go cn sl i) / (sr_pc kp co cn))) sk_J9_min_7cf53 (ss_J9_min_7cf53) sw_333 rfl rfl hl.1 (Nat.le_of_ble_eq_true rfl) (Nat.le_of_ble_eq_true rfl) (Nat.le_of_ble_eq_true rfl) dX6_farthest_64 ⟨Nat.zero_le _, Nat.zero_le _⟩ ?_
          exact hret _ _ _ dX6_farthest_67 (by rw [show i = sr_zo kp + 1 by omega]; exact sr_far (sr_IC_K hI) hr_co hr_go hl_sl)
        · have g30 : ¬ ((sr_zo kp) < i) := fun q => c30 ((nI_ltI (a := (sr_zo kp)) (b := i) (by omega) (by omega)).mpr q)
          refine lv_iload C0.1 C0.2.1 dX6_farthest_33 (lv_at hl 1 rfl) ?_
          refine lv_aload_n C0.1 C0.2.1 dX6_farthest_35 rfl (lv_at hl 3 rfl) ?_
          refine lv_iload_n C0.1 C0.2.1 dX6_farthest_36 rfl (lv_at hl 4 rfl) ?_
          refine lv_iload_n C0.1 C0.2.1 dX6_farthest_37 rfl (lv_at hl 5 rfl) ?_
          refine lv_iload_n C0.1 C0.2.1 dX6_farthest_38 rfl (lv_at hl 6 rfl) ?_
          refine lv_iload C0.1 C0.2.1 dX6_farthest_39 (lv_at hl 7 rfl) ?_
          refine lv_iload C0.1 C0.2.1 dX6_farthest_41 (lv_at hl 0 rfl) ?_
          refine sr_pVi (As := [.int (nI cn), .int (nI co), .int (nI go), .int sl, .int (nI i)]) C0 hK hP hZ hZ0 (cc_X6_headroom ha cn co go sl i hI (by first | omega | exact sr_th_at hT (by omega)) (by first | omega | exact sr_th_at hT (by omega)) (by omega)) sk_X6_headroom sv_X6_headroom sw_370 (ci := 6) rfl sr_wC2 rfl rfl hl.1 (Nat.le_of_ble_eq_true rfl) (Nat.le_of_ble_eq_true rfl) (Nat.le_of_ble_eq_true rfl) dX6_farthest_43 ⟨Nat.zero_le _, Nat.zero_le _⟩ ?_
          refine sr_pSi (As := [.int (sr_mx kp co go cn sl i), .int (sr_hr kp co go cn sl i)]) C0 hK hP hZ hZ0 (cc_J9_max_7cf53 ha (sr_mx kp co go cn sl i) (sr_hr kp co go cn sl i)) sk_J9_max_7cf53 (ss_J9_max_7cf53) sw_351 rfl rfl hl.1 (Nat.le_of_ble_eq_true rfl) (Nat.le_of_ble_eq_true rfl) (Nat.le_of_ble_eq_true rfl) dX6_farthest_46 ⟨Nat.zero_le _, Nat.zero_le _⟩ ?_
          refine lv_istore (lv' := [(6, .int (if (sr_mx kp co go cn sl i) < (sr_hr kp co go cn sl i) then (sr_hr kp co go cn sl i) else (sr_mx kp co go cn sl i))), (7, .int (nI i)), (5, .int (sr_pc kp co cn)), (0, .ref (a 2)), (1, .int (nI cn)), (2, .int (nI co)), (3, .int (nI go)), (4, .int sl)]) C0.1 C0.2.1 dX6_farthest_49 hl (by decide) rfl (fun ls hl => ?_)
          refine lv_iinc (v := (nI (i + 1))) (lv' := [(7, .int (nI (i + 1))), (6, .int (if (sr_mx kp co go cn sl i) < (sr_hr kp co go cn sl i) then (sr_hr kp co go cn sl i) else (sr_mx kp co go cn sl i))), (5, .int (sr_pc kp co cn)), (0, .ref (a 2)), (1, .int (nI cn)), (2, .int (nI co)), (3, .int (nI go)), (4, .int sl)]) C0.1 C0.2.1 dX6_farthest_51 hl (k := 1) rfl (nI_1 i) (by decide) rfl (fun ls hl => ?_)
          refine lv_goto (tgt := 22) C0.1 C0.2.1 dX6_farthest_54 (by decide) ?_
          exact ih (i + 1) _ (by omega) (by omega) (lv_sub hl [0, 1, 2, 3, 4, 5, 6, 7] rfl)
    exact lp22 (sr_zo kp + 2) 0 _ (by omega) (by omega) (lv_sub hl [0, 1, 2, 3, 4, 5, 6, 7] rfl)
  · refine lv_iconst (v := (-1)) C0.1 C0.2.1 dX6_farthest_14 (by decide) ?_
    exact hret _ _ _ dX6_farthest_15 (absurd (sr_pc1 (sr_IC_K hI) hr_co cn) c11)
set_option maxRecDepth 100000 in
set_option maxHeartbeats 4000000 in
theorem cc_X6_leg {l : Launch} {D : va_G} {cI cR : ClassId} {a : Nat → Nat} (ha : ∀ i j, i < 36 → j < 36 → a i = a j → i = j) {kp cx sg : sr_M} (cn : Nat) (co : Nat) (go : Nat) (mk : Int32) (sl : Int32) (hI : sr_IC kp cx) (hr_co : co < sr_cnt kp) (hr_go : go < sr_cnt kp) (hs_cn : cn < 3) (hb_mk : sr_b0 mk 40) (hl_sl : sr_bs sl) : sr_P l D (sr_tC cI cR) (sr_ZC a) (sr_WC cI cR a kp cx sg) yX6_leg cX6_leg 7 (some .int) 4 98 [.ref (a 2), .int (nI cn), .int (nI co), .int (nI go), .int mk, .int sl] (some (.int (sr_leg kp co go cn mk sl))) := by
  refine sr_Pie (by decide +kernel) (Nat.le_of_ble_eq_true rfl) (fun p e s m args below meth c ls Q B hret => ?_)
  obtain ⟨C0, hP, hK, hZ0, hl⟩ := B
  have hZ : sr_Zok (sr_AC a) (sr_ZC a) := sr_ZCok a
  have hS : va_S (sr_AC a) s.heap s.heap [] := va_S.rf
  have hl : lv_has ls 7 [(0, .ref (a 2)), (1, .int (nI cn)), (2, .int (nI co)), (3, .int (nI go)), (4, .int mk), (5, .int sl)] := hl
  have := sr_cnt5 kp
  refine lv_aload_n C0.1 C0.2.1 dX6_leg_0 rfl (lv_at hl 0 rfl) ?_
  refine lv_iload_n C0.1 C0.2.1 dX6_leg_1 rfl (lv_at hl 1 rfl) ?_
  refine lv_iload_n C0.1 C0.2.1 dX6_leg_2 rfl (lv_at hl 2 rfl) ?_
  refine lv_iload_n C0.1 C0.2.1 dX6_leg_3 rfl (lv_at hl 3 rfl) ?_
  refine lv_iload C0.1 C0.2.1 dX6_leg_4 (lv_at hl 4 rfl) ?_
  refine lv_iload C0.1 C0.2.1 dX6_leg_6 (lv_at hl 5 rfl) ?_
  refine sr_pVi (As := [.int (nI cn), .int (nI co), .int (nI go), .int mk, .int sl]) C0 hK hP hZ hZ0 (cc_X6_meeting ha cn co go mk sl hI (by first | omega | exact sr_th_at hT (by omega)) (by first | omega | exact sr_th_at hT (by omega)) (by omega) (by first | assumption | exact sr_IK_mb (sr_IC_K hI) (by omega) | exact sr_b0n (by omega)) (by first | assumption | exact sr_IK_sl (sr_IC_K hI) (by omega) | exact sr_bs0 | exact sr_bsp (sr_IC_K hI) (by omega))) sk_X6_meeting sv_X6_meeting sw_394 (ci := 6) rfl sr_wC2 rfl rfl hl.1 (Nat.le_of_ble_eq_true rfl) (Nat.le_of_ble_eq_true rfl) (Nat.le_of_ble_eq_true rfl) dX6_leg_8 ⟨Nat.zero_le _, Nat.zero_le _⟩ ?_
  refine lv_istore (lv' := [(6, .int (sr_mt kp co go cn mk sl)), (0, .ref (a 2)), (1, .int (nI cn)), (2, .int (nI co)), (3, .int (nI go)), (4, .int mk), (5, .int sl)]) C0.1 C0.2.1 dX6_leg_11 hl (by decide) rfl (fun ls hl => ?_)
  refine lv_iload C0.1 C0.2.1 dX6_leg_13 (lv_at hl 0 rfl) ?_
  refine lv_iconst (v := (-1)) C0.1 C0.2.1 dX6_leg_15 (by decide) ?_
  refine lv_icmp_ne (tgt := 21) C0.1 C0.2.1 dX6_leg_16 (by decide) (fun c16 => ?_) (fun c16 => ?_)
  · refine lv_aload_n C0.1 C0.2.1 dX6_leg_21 rfl (lv_at hl 1 rfl) ?_
    refine lv_iload_n C0.1 C0.2.1 dX6_leg_22 rfl (lv_at hl 2 rfl) ?_
    refine lv_iload_n C0.1 C0.2.1 dX6_leg_23 rfl (lv_at hl 3 rfl) ?_
    refine lv_iload C0.1 C0.2.1 dX6_leg_24 (lv_at hl 5 rfl) ?_
    refine lv_iload C0.1 C0.2.1 dX6_leg_26 (lv_at hl 6 rfl) ?_
    refine sr_pVi (As := [.int (nI cn), .int (nI co), .int mk, .int sl]) C0 hK hP hZ hZ0 (cc_X6_untilNext ha cn co mk sl hI (by first | omega | exact sr_th_at hT (by omega)) (by omega)) sk_X6_untilNext sv_X6_untilNext sw_395 (ci := 6) rfl sr_wC2 rfl rfl hl.1 (Nat.le_of_ble_eq_true rfl) (Nat.le_of_ble_eq_true rfl) (Nat.le_of_ble_eq_true rfl) dX6_leg_28 ⟨Nat.zero_le _, Nat.zero_le _⟩ ?_
    refine lv_iload C0.1 C0.2.1 dX6_leg_31 (lv_at hl 0 rfl) ?_
    have hJ46 : ∀ (k46_0 : Int32), k46_0 = (if (sr_mt kp co go cn mk sl) = 0 then (kp 2 5) else 0) → W p l e (sr_rm 4 98) s m args below meth c s.heap [] 0 0 Q (F0 m 46 ls [.int k46_0, .int (sr_Dl kp co cn mk sl)]) := by
      intro k46_0 e_k46_0
      subst e_k46_0
      refine lv_iadd C0.1 C0.2.1 dX6_leg_46 ?_
      exact hret _ _ _ dX6_leg_47 (by unfold sr_leg; rw [if_neg c16])
    refine lv_if_ne (tgt := 45) C0.1 C0.2.1 dX6_leg_33 (by decide) (fun c33 => ?_) (fun c33 => ?_)
    · refine lv_iconst (v := 0) C0.1 C0.2.1 dX6_leg_45 (by decide) ?_
      exact hJ46 _ (by rw [if_neg c33])
    · refine lv_aload_n C0.1 C0.2.1 dX6_leg_36 rfl (lv_at hl 1 rfl) ?_
      refine sr_get (v := .ref (a 13)) C0 hK hP sr_inX6 sr_wC2 rfl 1 (by decide) sw_70 rfl dX6_leg_37 ?_
      refine lv_iconst (v := 5) C0.1 C0.2.1 dX6_leg_40 (by decide) ?_
      refine sr_ald (k := 5) C0 hK rfl hP sr_wC13 (by decide) (sr_inc (by decide)) dX6_leg_41 ?_
      refine lv_goto (tgt := 46) C0.1 C0.2.1 dX6_leg_42 (by decide) ?_
      exact hJ46 _ (by rw [if_pos c33])
  · refine lv_iconst (v := (-1)) C0.1 C0.2.1 dX6_leg_19 (by decide) ?_
    exact hret _ _ _ dX6_leg_20 (by unfold sr_leg; rw [if_pos c16])
set_option maxRecDepth 100000 in
set_option maxHeartbeats 4000000 in
theorem cc_X6_kindOf {l : Launch} {D : va_G} {cI cR : ClassId} {a : Nat → Nat} (ha : ∀ i j, i < 36 → j < 36 → a i = a j → i = j) {kp cx sg : sr_M} (m_ : Int32) (hI : sr_IC kp cx) : sr_P l D (sr_tC cI cR) (sr_ZC a) (sr_WC cI cR a kp cx sg) yX6_kindOf cX6_kindOf 2 (some .int) 0 0 [.ref (a 2), .int m_] (some (.int (sr_kd kp m_))) := by
  refine sr_Pie (by decide +kernel) (Nat.le_of_ble_eq_true rfl) (fun p e s m args below meth c ls Q B hret => ?_)
  obtain ⟨C0, hP, hK, hZ0, hl⟩ := B
  have hZ : sr_Zok (sr_AC a) (sr_ZC a) := sr_ZCok a
  have hS : va_S (sr_AC a) s.heap s.heap [] := va_S.rf
  have hl : lv_has ls 2 [(0, .ref (a 2)), (1, .int m_)] := hl
  refine lv_iload_n C0.1 C0.2.1 dX6_kindOf_0 rfl (lv_at hl 1 rfl) ?_
  refine lv_iconst (v := (-1)) C0.1 C0.2.1 dX6_kindOf_1 (by decide) ?_
  refine lv_icmp_ne (tgt := 7) C0.1 C0.2.1 dX6_kindOf_2 (by decide) (fun c2 => ?_) (fun c2 => ?_)
  · refine lv_iload_n C0.1 C0.2.1 dX6_kindOf_7 rfl (lv_at hl 1 rfl) ?_
    refine lv_if_ne (tgt := 13) C0.1 C0.2.1 dX6_kindOf_8 (by decide) (fun c8 => ?_) (fun c8 => ?_)
    · refine lv_iload_n C0.1 C0.2.1 dX6_kindOf_13 rfl (lv_at hl 1 rfl) ?_
      refine lv_aload_n C0.1 C0.2.1 dX6_kindOf_14 rfl (lv_at hl 0 rfl) ?_
      refine sr_get (v := .ref (a 13)) C0 hK hP sr_inX6 sr_wC2 rfl 1 (by decide) sw_70 rfl dX6_kindOf_15 ?_
      refine lv_iconst (v := 0) C0.1 C0.2.1 dX6_kindOf_18 (by decide) ?_
      refine sr_ald (k := 0) C0 hK rfl hP sr_wC13 (by decide) (sr_inc (by decide)) dX6_kindOf_19 ?_
      refine sr_chi (sr_IK_zo (sr_IC_K hI)) ?_
      have := sr_IK_zo5 (sr_IC_K hI)
      refine lv_iconst (v := 2) C0.1 C0.2.1 dX6_kindOf_20 (by decide) ?_
      refine lv_isub C0.1 C0.2.1 dX6_kindOf_21 ?_
      refine lv_icmp_lt (tgt := 29) C0.1 C0.2.1 dX6_kindOf_22 (by decide) (fun c22 => ?_) (fun c22 => ?_)
      · refine lv_iconst (v := 0) C0.1 C0.2.1 dX6_kindOf_29 (by decide) ?_
        exact hret _ _ _ dX6_kindOf_30 (by unfold sr_kd; rw [if_neg c2, if_neg c8, if_pos c22])
      · refine lv_iconst (v := 1) C0.1 C0.2.1 dX6_kindOf_25 (by decide) ?_
        refine lv_goto (tgt := 30) C0.1 C0.2.1 dX6_kindOf_26 (by decide) ?_
        exact hret _ _ _ dX6_kindOf_30 (by unfold sr_kd; rw [if_neg c2, if_neg c8, if_neg c22])
    · refine lv_iconst (v := 2) C0.1 C0.2.1 dX6_kindOf_11 (by decide) ?_
      exact hret _ _ _ dX6_kindOf_12 (by unfold sr_kd; rw [if_neg c2, if_pos c8])
  · refine lv_iconst (v := 3) C0.1 C0.2.1 dX6_kindOf_5 (by decide) ?_
    exact hret _ _ _ dX6_kindOf_6 (by unfold sr_kd; rw [if_pos c2])
end
