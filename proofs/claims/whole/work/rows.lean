section
-- ===== PART A: goes FIRST, ahead of the names: the tables' words, and 'selects' of the private methods out of them =====
/-- a private method of a class that the tables say can be made, by its rows of tables_1 -/
def lw_okq (q : MethodName × Nat) : Prop := (q.1.cls ≠ "java/lang/invoke/MethodHandle" ∧ q.1.cls ≠ "java/lang/invoke/VarHandle") ∧ Cond.instantiable q.1.cls q.2 ∈ tables_1 ∧ Cond.privateMethod q.1 ∈ tables_1 ∧ Cond.instanceMethod q.1 ∈ tables_1
theorem lw_p0 : lw_okq (⟨"SoundKernel$Player", "isWrittenFor", "(I)Z"⟩, 15) := ⟨⟨by decide +kernel, by decide +kernel⟩, List.mem_of_getElem? (i := 127) (by decide +kernel), List.mem_of_getElem? (i := 125) (by decide +kernel), List.mem_of_getElem? (i := 126) (by decide +kernel)⟩
theorem lw_p1 : lw_okq (⟨"SoundKernel$Player", "giveOutputs", "([I)V"⟩, 15) := ⟨⟨by decide +kernel, by decide +kernel⟩, List.mem_of_getElem? (i := 127) (by decide +kernel), List.mem_of_getElem? (i := 145) (by decide +kernel), List.mem_of_getElem? (i := 146) (by decide +kernel)⟩
theorem lw_p2 : lw_okq (⟨"SoundKernel$Player", "giveFade", "([I)V"⟩, 15) := ⟨⟨by decide +kernel, by decide +kernel⟩, List.mem_of_getElem? (i := 127) (by decide +kernel), List.mem_of_getElem? (i := 167) (by decide +kernel), List.mem_of_getElem? (i := 168) (by decide +kernel)⟩
theorem lw_p3 : lw_okq (⟨"SoundKernel$Player", "isPastAllWritten", "()Z"⟩, 15) := ⟨⟨by decide +kernel, by decide +kernel⟩, List.mem_of_getElem? (i := 127) (by decide +kernel), List.mem_of_getElem? (i := 178) (by decide +kernel), List.mem_of_getElem? (i := 179) (by decide +kernel)⟩
theorem lw_p4 : lw_okq (⟨"SoundKernel$Limiter", "recover", "()V"⟩, 4) := ⟨⟨by decide +kernel, by decide +kernel⟩, List.mem_of_getElem? (i := 47) (by decide +kernel), List.mem_of_getElem? (i := 196) (by decide +kernel), List.mem_of_getElem? (i := 197) (by decide +kernel)⟩
theorem lw_p5 : lw_okq (⟨"SoundKernel$Limiter", "yieldTo", "(I)V"⟩, 4) := ⟨⟨by decide +kernel, by decide +kernel⟩, List.mem_of_getElem? (i := 47) (by decide +kernel), List.mem_of_getElem? (i := 206) (by decide +kernel), List.mem_of_getElem? (i := 207) (by decide +kernel)⟩
theorem lw_p6 : lw_okq (⟨"SoundKernel$Limiter", "limited", "(I)I"⟩, 4) := ⟨⟨by decide +kernel, by decide +kernel⟩, List.mem_of_getElem? (i := 47) (by decide +kernel), List.mem_of_getElem? (i := 211) (by decide +kernel), List.mem_of_getElem? (i := 212) (by decide +kernel)⟩
theorem lw_p7 : lw_okq (⟨"SoundKernel$Limiter", "cut", "(I)I"⟩, 4) := ⟨⟨by decide +kernel, by decide +kernel⟩, List.mem_of_getElem? (i := 47) (by decide +kernel), List.mem_of_getElem? (i := 217) (by decide +kernel), List.mem_of_getElem? (i := 218) (by decide +kernel)⟩
theorem lw_p8 : lw_okq (⟨"SoundKernel", "playOldest", "()V"⟩, 11) := ⟨⟨by decide +kernel, by decide +kernel⟩, List.mem_of_getElem? (i := 19) (by decide +kernel), List.mem_of_getElem? (i := 228) (by decide +kernel), List.mem_of_getElem? (i := 229) (by decide +kernel)⟩
theorem lw_p9 : lw_okq (⟨"SoundKernel", "captureIncoming", "()V"⟩, 11) := ⟨⟨by decide +kernel, by decide +kernel⟩, List.mem_of_getElem? (i := 19) (by decide +kernel), List.mem_of_getElem? (i := 239) (by decide +kernel), List.mem_of_getElem? (i := 240) (by decide +kernel)⟩
theorem lw_p10 : lw_okq (⟨"SoundKernel$Listener", "freshFrames", "()I"⟩, 10) := ⟨⟨by decide +kernel, by decide +kernel⟩, List.mem_of_getElem? (i := 254) (by decide +kernel), List.mem_of_getElem? (i := 252) (by decide +kernel), List.mem_of_getElem? (i := 253) (by decide +kernel)⟩
theorem lw_p11 : lw_okq (⟨"SoundKernel$Listener", "unlock", "(I)V"⟩, 10) := ⟨⟨by decide +kernel, by decide +kernel⟩, List.mem_of_getElem? (i := 254) (by decide +kernel), List.mem_of_getElem? (i := 259) (by decide +kernel), List.mem_of_getElem? (i := 260) (by decide +kernel)⟩
theorem lw_p12 : lw_okq (⟨"java/lang/Throwable", "fillInStackTrace", "(I)Ljava/lang/Throwable;"⟩, 6) := ⟨⟨by decide +kernel, by decide +kernel⟩, List.mem_of_getElem? (i := 327) (by decide +kernel), List.mem_of_getElem? (i := 325) (by decide +kernel), List.mem_of_getElem? (i := 326) (by decide +kernel)⟩
theorem lw_p13 : lw_okq (⟨"SoundKernel", "leastFree", "()I"⟩, 11) := ⟨⟨by decide +kernel, by decide +kernel⟩, List.mem_of_getElem? (i := 19) (by decide +kernel), List.mem_of_getElem? (i := 357) (by decide +kernel), List.mem_of_getElem? (i := 358) (by decide +kernel)⟩
theorem lw_p14 : lw_okq (⟨"SoundKernel", "requireClient", "(I)LSoundKernel$Client;"⟩, 11) := ⟨⟨by decide +kernel, by decide +kernel⟩, List.mem_of_getElem? (i := 19) (by decide +kernel), List.mem_of_getElem? (i := 525) (by decide +kernel), List.mem_of_getElem? (i := 526) (by decide +kernel)⟩
theorem lw_p15 : lw_okq (⟨"SoundKernel", "requirePlayer", "(I)LSoundKernel$Player;"⟩, 11) := ⟨⟨by decide +kernel, by decide +kernel⟩, List.mem_of_getElem? (i := 19) (by decide +kernel), List.mem_of_getElem? (i := 537) (by decide +kernel), List.mem_of_getElem? (i := 538) (by decide +kernel)⟩
def lw_privs_1 : List (MethodName × Nat) := [(⟨"SoundKernel$Player", "isWrittenFor", "(I)Z"⟩, 15), (⟨"SoundKernel$Player", "giveOutputs", "([I)V"⟩, 15), (⟨"SoundKernel$Player", "giveFade", "([I)V"⟩, 15), (⟨"SoundKernel$Player", "isPastAllWritten", "()Z"⟩, 15), (⟨"SoundKernel$Limiter", "recover", "()V"⟩, 4), (⟨"SoundKernel$Limiter", "yieldTo", "(I)V"⟩, 4), (⟨"SoundKernel$Limiter", "limited", "(I)I"⟩, 4), (⟨"SoundKernel$Limiter", "cut", "(I)I"⟩, 4), (⟨"SoundKernel", "playOldest", "()V"⟩, 11), (⟨"SoundKernel", "captureIncoming", "()V"⟩, 11), (⟨"SoundKernel$Listener", "freshFrames", "()I"⟩, 10), (⟨"SoundKernel$Listener", "unlock", "(I)V"⟩, 10), (⟨"java/lang/Throwable", "fillInStackTrace", "(I)Ljava/lang/Throwable;"⟩, 6), (⟨"SoundKernel", "leastFree", "()I"⟩, 11), (⟨"SoundKernel", "requireClient", "(I)LSoundKernel$Client;"⟩, 11), (⟨"SoundKernel", "requirePlayer", "(I)LSoundKernel$Player;"⟩, 11)]
theorem lw_r1 : ∀ q ∈ lw_privs_1, lw_okq q := List.forall_mem_cons.mpr ⟨lw_p0, List.forall_mem_cons.mpr ⟨lw_p1, List.forall_mem_cons.mpr ⟨lw_p2, List.forall_mem_cons.mpr ⟨lw_p3, List.forall_mem_cons.mpr ⟨lw_p4, List.forall_mem_cons.mpr ⟨lw_p5, List.forall_mem_cons.mpr ⟨lw_p6, List.forall_mem_cons.mpr ⟨lw_p7, List.forall_mem_cons.mpr ⟨lw_p8, List.forall_mem_cons.mpr ⟨lw_p9, List.forall_mem_cons.mpr ⟨lw_p10, List.forall_mem_cons.mpr ⟨lw_p11, List.forall_mem_cons.mpr ⟨lw_p12, List.forall_mem_cons.mpr ⟨lw_p13, List.forall_mem_cons.mpr ⟨lw_p14, List.forall_mem_cons.mpr ⟨lw_p15, fun _ h => absurd h List.not_mem_nil⟩⟩⟩⟩⟩⟩⟩⟩⟩⟩⟩⟩⟩⟩⟩⟩
theorem lw_p16 : lw_okq (⟨"SoundKernel$Player", "freeFrames", "()J"⟩, 15) := ⟨⟨by decide +kernel, by decide +kernel⟩, List.mem_of_getElem? (i := 127) (by decide +kernel), List.mem_of_getElem? (i := 601) (by decide +kernel), List.mem_of_getElem? (i := 602) (by decide +kernel)⟩
theorem lw_p17 : lw_okq (⟨"SoundKernel", "requireListener", "(I)LSoundKernel$Listener;"⟩, 11) := ⟨⟨by decide +kernel, by decide +kernel⟩, List.mem_of_getElem? (i := 19) (by decide +kernel), List.mem_of_getElem? (i := 620) (by decide +kernel), List.mem_of_getElem? (i := 621) (by decide +kernel)⟩
theorem lw_p18 : lw_okq (⟨"SoundKernelModel", "refused", "(I)Z"⟩, 40) := ⟨⟨by decide +kernel, by decide +kernel⟩, List.mem_of_getElem? (i := 741) (by decide +kernel), List.mem_of_getElem? (i := 890) (by decide +kernel), List.mem_of_getElem? (i := 891) (by decide +kernel)⟩
theorem lw_p19 : lw_okq (⟨"SoundKernelModel", "isClient", "(I)Z"⟩, 40) := ⟨⟨by decide +kernel, by decide +kernel⟩, List.mem_of_getElem? (i := 741) (by decide +kernel), List.mem_of_getElem? (i := 898) (by decide +kernel), List.mem_of_getElem? (i := 899) (by decide +kernel)⟩
theorem lw_p20 : lw_okq (⟨"SoundKernelModel", "isNumber", "(II)Z"⟩, 40) := ⟨⟨by decide +kernel, by decide +kernel⟩, List.mem_of_getElem? (i := 741) (by decide +kernel), List.mem_of_getElem? (i := 927) (by decide +kernel), List.mem_of_getElem? (i := 928) (by decide +kernel)⟩
theorem lw_p21 : lw_okq (⟨"SoundKernelModel", "spare", "(I)I"⟩, 40) := ⟨⟨by decide +kernel, by decide +kernel⟩, List.mem_of_getElem? (i := 741) (by decide +kernel), List.mem_of_getElem? (i := 931) (by decide +kernel), List.mem_of_getElem? (i := 932) (by decide +kernel)⟩
theorem lw_p22 : lw_okq (⟨"SoundKernelModel", "place", "(I)I"⟩, 40) := ⟨⟨by decide +kernel, by decide +kernel⟩, List.mem_of_getElem? (i := 741) (by decide +kernel), List.mem_of_getElem? (i := 935) (by decide +kernel), List.mem_of_getElem? (i := 936) (by decide +kernel)⟩
theorem lw_p23 : lw_okq (⟨"SoundKernelModel", "toSample", "(II)I"⟩, 40) := ⟨⟨by decide +kernel, by decide +kernel⟩, List.mem_of_getElem? (i := 741) (by decide +kernel), List.mem_of_getElem? (i := 942) (by decide +kernel), List.mem_of_getElem? (i := 943) (by decide +kernel)⟩
theorem lw_p24 : lw_okq (⟨"SoundKernelModel", "add", "(III)V"⟩, 40) := ⟨⟨by decide +kernel, by decide +kernel⟩, List.mem_of_getElem? (i := 741) (by decide +kernel), List.mem_of_getElem? (i := 946) (by decide +kernel), List.mem_of_getElem? (i := 947) (by decide +kernel)⟩
theorem lw_p25 : lw_okq (⟨"SoundKernelModel", "between", "(IIIIZ)I"⟩, 40) := ⟨⟨by decide +kernel, by decide +kernel⟩, List.mem_of_getElem? (i := 741) (by decide +kernel), List.mem_of_getElem? (i := 954) (by decide +kernel), List.mem_of_getElem? (i := 955) (by decide +kernel)⟩
theorem lw_p26 : lw_okq (⟨"SoundKernelModel", "sampleAt", "(IIZ)I"⟩, 40) := ⟨⟨by decide +kernel, by decide +kernel⟩, List.mem_of_getElem? (i := 741) (by decide +kernel), List.mem_of_getElem? (i := 958) (by decide +kernel), List.mem_of_getElem? (i := 959) (by decide +kernel)⟩
theorem lw_p27 : lw_okq (⟨"SoundKernelModel", "toNumber", "(II)I"⟩, 40) := ⟨⟨by decide +kernel, by decide +kernel⟩, List.mem_of_getElem? (i := 741) (by decide +kernel), List.mem_of_getElem? (i := 970) (by decide +kernel), List.mem_of_getElem? (i := 971) (by decide +kernel)⟩
theorem lw_p28 : lw_okq (⟨"SoundKernelModel", "isBacked", "(IIII)Z"⟩, 40) := ⟨⟨by decide +kernel, by decide +kernel⟩, List.mem_of_getElem? (i := 741) (by decide +kernel), List.mem_of_getElem? (i := 985) (by decide +kernel), List.mem_of_getElem? (i := 986) (by decide +kernel)⟩
theorem lw_p29 : lw_okq (⟨"SoundKernelModel", "give", "(I)Z"⟩, 40) := ⟨⟨by decide +kernel, by decide +kernel⟩, List.mem_of_getElem? (i := 741) (by decide +kernel), List.mem_of_getElem? (i := 993) (by decide +kernel), List.mem_of_getElem? (i := 994) (by decide +kernel)⟩
theorem lw_p30 : lw_okq (⟨"SoundKernelModel", "giveNothing", "()V"⟩, 40) := ⟨⟨by decide +kernel, by decide +kernel⟩, List.mem_of_getElem? (i := 741) (by decide +kernel), List.mem_of_getElem? (i := 997) (by decide +kernel), List.mem_of_getElem? (i := 998) (by decide +kernel)⟩
theorem lw_p31 : lw_okq (⟨"SoundKernelModel", "giveOutputs", "(I)V"⟩, 40) := ⟨⟨by decide +kernel, by decide +kernel⟩, List.mem_of_getElem? (i := 741) (by decide +kernel), List.mem_of_getElem? (i := 1001) (by decide +kernel), List.mem_of_getElem? (i := 1002) (by decide +kernel)⟩
def lw_privs_2 : List (MethodName × Nat) := [(⟨"SoundKernel$Player", "freeFrames", "()J"⟩, 15), (⟨"SoundKernel", "requireListener", "(I)LSoundKernel$Listener;"⟩, 11), (⟨"SoundKernelModel", "refused", "(I)Z"⟩, 40), (⟨"SoundKernelModel", "isClient", "(I)Z"⟩, 40), (⟨"SoundKernelModel", "isNumber", "(II)Z"⟩, 40), (⟨"SoundKernelModel", "spare", "(I)I"⟩, 40), (⟨"SoundKernelModel", "place", "(I)I"⟩, 40), (⟨"SoundKernelModel", "toSample", "(II)I"⟩, 40), (⟨"SoundKernelModel", "add", "(III)V"⟩, 40), (⟨"SoundKernelModel", "between", "(IIIIZ)I"⟩, 40), (⟨"SoundKernelModel", "sampleAt", "(IIZ)I"⟩, 40), (⟨"SoundKernelModel", "toNumber", "(II)I"⟩, 40), (⟨"SoundKernelModel", "isBacked", "(IIII)Z"⟩, 40), (⟨"SoundKernelModel", "give", "(I)Z"⟩, 40), (⟨"SoundKernelModel", "giveNothing", "()V"⟩, 40), (⟨"SoundKernelModel", "giveOutputs", "(I)V"⟩, 40)]
theorem lw_r2 : ∀ q ∈ lw_privs_2, lw_okq q := List.forall_mem_cons.mpr ⟨lw_p16, List.forall_mem_cons.mpr ⟨lw_p17, List.forall_mem_cons.mpr ⟨lw_p18, List.forall_mem_cons.mpr ⟨lw_p19, List.forall_mem_cons.mpr ⟨lw_p20, List.forall_mem_cons.mpr ⟨lw_p21, List.forall_mem_cons.mpr ⟨lw_p22, List.forall_mem_cons.mpr ⟨lw_p23, List.forall_mem_cons.mpr ⟨lw_p24, List.forall_mem_cons.mpr ⟨lw_p25, List.forall_mem_cons.mpr ⟨lw_p26, List.forall_mem_cons.mpr ⟨lw_p27, List.forall_mem_cons.mpr ⟨lw_p28, List.forall_mem_cons.mpr ⟨lw_p29, List.forall_mem_cons.mpr ⟨lw_p30, List.forall_mem_cons.mpr ⟨lw_p31, fun _ h => absurd h List.not_mem_nil⟩⟩⟩⟩⟩⟩⟩⟩⟩⟩⟩⟩⟩⟩⟩⟩
theorem lw_p32 : lw_okq (⟨"SoundKernelModel", "fade", "(I)V"⟩, 40) := ⟨⟨by decide +kernel, by decide +kernel⟩, List.mem_of_getElem? (i := 741) (by decide +kernel), List.mem_of_getElem? (i := 1005) (by decide +kernel), List.mem_of_getElem? (i := 1006) (by decide +kernel)⟩
theorem lw_p33 : lw_okq (⟨"SoundKernelModel", "mix", "(I)V"⟩, 40) := ⟨⟨by decide +kernel, by decide +kernel⟩, List.mem_of_getElem? (i := 741) (by decide +kernel), List.mem_of_getElem? (i := 1009) (by decide +kernel), List.mem_of_getElem? (i := 1010) (by decide +kernel)⟩
theorem lw_p34 : lw_okq (⟨"SoundKernelModel", "limitFrame", "(I)V"⟩, 40) := ⟨⟨by decide +kernel, by decide +kernel⟩, List.mem_of_getElem? (i := 741) (by decide +kernel), List.mem_of_getElem? (i := 1014) (by decide +kernel), List.mem_of_getElem? (i := 1015) (by decide +kernel)⟩
theorem lw_p35 : lw_okq (⟨"SoundKernelModel", "cut", "(J)I"⟩, 40) := ⟨⟨by decide +kernel, by decide +kernel⟩, List.mem_of_getElem? (i := 741) (by decide +kernel), List.mem_of_getElem? (i := 1023) (by decide +kernel), List.mem_of_getElem? (i := 1024) (by decide +kernel)⟩
theorem lw_p36 : lw_okq (⟨"SoundKernelModel", "playOne", "(Z)V"⟩, 40) := ⟨⟨by decide +kernel, by decide +kernel⟩, List.mem_of_getElem? (i := 741) (by decide +kernel), List.mem_of_getElem? (i := 1033) (by decide +kernel), List.mem_of_getElem? (i := 1034) (by decide +kernel)⟩
theorem lw_p37 : lw_okq (⟨"SoundKernelModel", "shiftReady", "()V"⟩, 40) := ⟨⟨by decide +kernel, by decide +kernel⟩, List.mem_of_getElem? (i := 741) (by decide +kernel), List.mem_of_getElem? (i := 1037) (by decide +kernel), List.mem_of_getElem? (i := 1038) (by decide +kernel)⟩
theorem lw_p38 : lw_okq (⟨"SoundKernelModel", "capture", "(I)V"⟩, 40) := ⟨⟨by decide +kernel, by decide +kernel⟩, List.mem_of_getElem? (i := 741) (by decide +kernel), List.mem_of_getElem? (i := 1041) (by decide +kernel), List.mem_of_getElem? (i := 1042) (by decide +kernel)⟩
def lw_privs_3 : List (MethodName × Nat) := [(⟨"SoundKernelModel", "fade", "(I)V"⟩, 40), (⟨"SoundKernelModel", "mix", "(I)V"⟩, 40), (⟨"SoundKernelModel", "limitFrame", "(I)V"⟩, 40), (⟨"SoundKernelModel", "cut", "(J)I"⟩, 40), (⟨"SoundKernelModel", "playOne", "(Z)V"⟩, 40), (⟨"SoundKernelModel", "shiftReady", "()V"⟩, 40), (⟨"SoundKernelModel", "capture", "(I)V"⟩, 40)]
theorem lw_r3 : ∀ q ∈ lw_privs_3, lw_okq q := List.forall_mem_cons.mpr ⟨lw_p32, List.forall_mem_cons.mpr ⟨lw_p33, List.forall_mem_cons.mpr ⟨lw_p34, List.forall_mem_cons.mpr ⟨lw_p35, List.forall_mem_cons.mpr ⟨lw_p36, List.forall_mem_cons.mpr ⟨lw_p37, List.forall_mem_cons.mpr ⟨lw_p38, fun _ h => absurd h List.not_mem_nil⟩⟩⟩⟩⟩⟩⟩
def lw_privs : List (MethodName × Nat) := lw_privs_1 ++ (lw_privs_2 ++ (lw_privs_3))
def lw_tbl : List Cond := k2_sels lw_privs ++ tables_1
theorem lw_privs_ok : ∀ q ∈ lw_privs, lw_okq q := by
  show ∀ q ∈ lw_privs_1 ++ (lw_privs_2 ++ (lw_privs_3)), lw_okq q
  exact List.forall_mem_append.mpr ⟨lw_r1, List.forall_mem_append.mpr ⟨lw_r2, lw_r3⟩⟩
end
section
/-! ===== BEGIN words of one list among another's, by their places ===== -/
theorem goodIn_r {big : List Cond} (ws : List Cond) (ps : List Nat) (hp : ws = ps.filterMap (fun i => big[i]?)) (h : ws.all goodWord = true) : GoodIn big ws := by
  intro w hw
  have h1 := List.all_eq_true.mp h w hw
  rw [hp] at hw
  obtain ⟨i, -, hi⟩ := List.mem_filterMap.mp hw
  have hm : w ∈ big := by first | exact List.mem_of_getElem? hi | exact List.getElem?_mem hi
  exact ⟨hm, good_of_word h1⟩
theorem goodIn_app {big a b : List Cond} (ha : GoodIn big a) (hb : GoodIn big b) : GoodIn big (a ++ b) := fun w h => (List.mem_append.mp h).elim (ha w) (hb w)
theorem goodIn_ca {big a b : List Cond} {c : Cond} (ha : GoodIn big (c :: a)) (hb : GoodIn big b) : GoodIn big (c :: (a ++ b)) := fun w h => (List.mem_cons.mp h).elim (fun e => ha w (List.mem_cons.mpr (Or.inl e))) (fun h => (List.mem_append.mp h).elim (fun h => ha w (List.mem_cons.mpr (Or.inr h))) (hb w))
theorem goodIn_sub {big ws : List Cond} (hm : ∀ w ∈ ws, w ∈ big) (h : ws.all goodWord = true) : GoodIn big ws := fun w hw => ⟨hm w hw, good_of_word (List.all_eq_true.mp h w hw)⟩
/-! ===== END ===== -/

/-! ===== BEGIN new T[n][m]: the outer array a place, the inner ones among the pooled ===== -/
/-- f, but v at every address of l -/
def vr_up {α : Type} (f : Nat → α) (l : List Nat) (v : α) : Nat → α := fun a => if a ∈ l then v else f a
theorem vr_up_in {α : Type} {f : Nat → α} {l : List Nat} {v : α} {a : Nat} (h : a ∈ l) : vr_up f l v a = v := if_pos h
theorem vr_up_ne {α : Type} {f : Nat → α} {l : List Nat} {v : α} {a : Nat} (h : a ∉ l) : vr_up f l v a = f a := if_neg h
theorem vr_rows {L l : List Nat} {f : Nat → va_E} {e : va_E} (h : ∀ a, a ∈ l → a ∉ L) : va_pl L f ++ l.map (fun a => (a, e)) = va_pl (L ++ l) (vr_up f l e) := by
  unfold va_pl
  rw [List.map_append]
  congr 1
  · apply List.map_congr_left
    intro a ha
    rw [vr_up_ne (fun q => h a q ha)]
  · apply List.map_congr_left
    intro a ha
    rw [vr_up_in ha]
theorem vr_lay {X rows : va_W} {x : Nat × va_E} {pl : va_W} {D : va_G} {cl : List vw_C} {H : Heap} (hP : va_P D cl (((X ++ pl) ++ [x]) ++ rows) H) : va_P D cl ((X ++ [x]) ++ (pl ++ rows)) H := by
  rw [List.append_assoc (X ++ pl)] at hP
  have h := va_P.swap hP
  rw [← List.append_assoc X] at h
  have h2 := va_P.swap h
  rw [List.append_assoc (X ++ [x])] at h2
  exact h2
theorem vr_layD {X rows : va_W} {x : Nat × va_E} {pl : va_W} {A : Nat → Prop} (hD : va_D A (((X ++ pl) ++ [x]) ++ rows)) : va_D A ((X ++ [x]) ++ (pl ++ rows)) := by
  rw [List.append_assoc (X ++ pl)] at hD
  have h := va_D.swap hD
  rw [← List.append_assoc X] at h
  have h2 := va_D.swap h
  rw [List.append_assoc (X ++ [x])] at h2
  exact h2
theorem vr_outer (c : ClassId) (N h0 : Nat) : ∀ i : Nat, Jvm.Free.Multi.outerC c N h0 i = arrV c N (fun j => va_rf (if j < i then some (h0 + 1 + j) else none))
  | 0 => by
    show ({ cls := c, slots := Array.replicate N .null, vm := .none } : Cell) = _
    rw [arrV_new]
    refine congrArg (arrV c N) (funext fun j => ?_)
    simp [va_rf]
  | i + 1 => by
    show (Jvm.Free.Multi.outerC c N h0 i).setSlot i (.ref (h0 + 1 + i)) = _
    rw [vr_outer c N h0 i, arrV_store]
    refine congrArg (arrV c N) (funext fun j => ?_)
    by_cases e : j = i
    · subst e
      simp [updV, va_rf]
    · by_cases h : j < i
      · simp [updV, e, h, Nat.lt_succ_of_lt h]
      · simp [updV, e, h, show ¬ j < i + 1 by omega]
def va_AOA (ty : FieldType) (U : State) : Prop := (Cond.arrayOver (.array ty)).before #[] U = true
theorem va_AOA.use {ty : FieldType} {A : Array Value} {U : State} (h : va_AOA ty U) : (Cond.arrayOver (.array ty)).before A U = true := h
section VGM
variable {p : Program} {l : Launch} {e : Env} {R : Room} {s : State} {m : MethodId} {args : Array Value} {below : List Frame} {meth : Method} {c : Code} {H : Heap} {locs : List Loc} {cells slots : Nat} {Q : State → Prop}
variable {cc : ByteArray} {pc : Nat} {ls : Array Slot} {rest : List Value} {D : va_G} {cl : List vw_C} {A : Nat → Prop} {a : Nat} {tys : List (ClassId × FieldType)} {ws : va_W} {H0 : Heap}
theorem va_mna {X : va_W} {L : List Nat} {f : Nat → va_E} {cc : ByteArray} (hexec : p.tables.exec = Jvm.exec) (hb : c.code = cc) {own : String} {index : Nat} {ty : FieldType} {cy : ClassId} (hown : s.vm.findClass own = some m.cls) (hclink : (Cond.classLink own index ("[" ++ (FieldType.array ty).toString)).before args s = true) (hover : va_AOA ty s) (harr : (Cond.arrayClass ty).before args s = true) (hcy : s.vm.findClass (FieldType.array ty).toString = some cy)
    (hK : va_K D cl tys s) (hP : va_P D cl (X ++ va_pl L f) H) (hD : va_D A (X ++ va_pl L f)) (hS : va_S A H0 H locs) (hA : ∀ q, H0.size ≤ q → A q) {n k : Int32} {N' K' : Nat} {z : vp_A} (hn : ¬ n < 0) (hk : ¬ k < 0) (hN : n.toNatClampNeg = N') (hM : k.toNatClampNeg = K')
    (hb1 : N' * 4 ≤ 536870912) (hb2 : K' * componentBytes ty ≤ 536870912) (hb3 : K' ≤ 536870912) (hdf : fits ty (defaultValue ty) = true) (hdd : (defaultValue ty).isDefault = true) (hcells : cells + (1 + N') ≤ R.cells) (hslots : slots + (N' + N' * K') ≤ R.slots) (hz : ∀ c : ClassId, Jvm.Free.Multi.innerC c K' (defaultValue ty) = vp_cell c z) (hdg : decode cc pc = .ok (.multianewarray index 2, 4))
    (kk : ∀ (q : Nat) (r : Nat → Nat) (cA : ClassId) (H1 : Heap), (∀ i j : Nat, i < N' → j < N' → r i = r j → i = j) → (∀ i : Nat, i < N' → r i ∉ L) → va_K D cl (tys ++ [(cA, .array ty)]) s →
      va_P D cl ((X ++ [(q, .inl (cA, N', .inr (.inr (.inr (.inr (fun i => if i < N' then some (r i) else none))))))]) ++ va_pl (L ++ (List.range N').map r) (vr_up f ((List.range N').map r) (.inl (cy, z)))) H1 → va_D A ((X ++ [(q, .inl (cA, N', .inr (.inr (.inr (.inr (fun i => if i < N' then some (r i) else none))))))]) ++ va_pl (L ++ (List.range N').map r) (vr_up f ((List.range N').map r) (.inl (cy, z)))) → va_S A H0 H1 locs →
      W p l e R s m args below meth c H1 locs (cells + 1 + N') (slots + N' + N' * K') Q (F0 m (pc + 4) ls (.ref q :: rest))) : W p l e R s m args below meth c H locs cells slots Q (F0 m pc ls (.int k :: .int n :: rest)) := by
  subst hN
  subst hM
  intro T hT Xs
  obtain ⟨vm₁, cA, comp, -, fA, fC, hO, -, X', step⟩ := Xs.multianewarray2F hexec hown hclink (va_AOA.use hover) harr (g := F0 m pc ls (.int k :: .int n :: rest)) rfl (by rw [hb]; exact hdg) rfl hn hk hb1 hb2 hb3 hdf hdd hcells hslots
  have ec : some cy = some comp := hcy.symm.trans fC
  cases ec
  generalize hF : Jvm.Free.Multi.fill (T.setVm vm₁) cA cy n.toNatClampNeg k.toNatClampNeg (defaultValue ty) n.toNatClampNeg = F at X' step
  have hTh : (T.setVm vm₁).heap = H := hT
  obtain ⟨f1, f2, -, -⟩ := Jvm.Free.Multi.fill_facts (T.setVm vm₁) cA cy n.toNatClampNeg k.toNatClampNeg (defaultValue ty) n.toNatClampNeg
  rw [hF, hTh] at f1 f2
  have hold : ∀ x : Nat, x < H.size → F.heap[x]? = H[x]? := fun x hx => by
    have := Jvm.Free.Multi.fill_old (T.setVm vm₁) cA cy n.toNatClampNeg k.toNatClampNeg (defaultValue ty) (a := x) (by rw [hTh]; exact hx) n.toNatClampNeg
    rw [hF, hTh] at this
    exact this
  have hrow : ∀ j : Nat, j < n.toNatClampNeg → F.heap[H.size + 1 + j]? = some (vp_cell cy z) := fun j hj => by
    have := Jvm.Free.Multi.fill_inner (T.setVm vm₁) cA cy n.toNatClampNeg k.toNatClampNeg (defaultValue ty) n.toNatClampNeg j hj
    rw [hF, hTh, hz] at this
    exact this
  have hout : Jvm.Free.Multi.outerC cA n.toNatClampNeg H.size n.toNatClampNeg = vp_cell cA (n.toNatClampNeg, .inr (.inr (.inr (.inr (fun i => if i < n.toNatClampNeg then some (H.size + 1 + i) else none))))) := by
    rw [vp_cell_q]
    exact vr_outer cA n.toNatClampNeg H.size n.toNatClampNeg
  rw [hout] at f2
  have hlt : ∀ a, a ∈ L → a < H.size := fun a ha => by
    obtain ⟨k9, hk9⟩ := va_pl_get (X := X) (f := f) ha
    exact (hP k9 _ hk9).lt
  have hnl : ∀ i : Nat, i < n.toNatClampNeg → H.size + 1 + i ∉ L := fun i _ h => by
    have := hlt _ h
    omega
  have hnm : ∀ a, a ∈ (List.range n.toNatClampNeg).map (fun i => H.size + 1 + i) → a ∉ L := fun a ha h => by
    obtain ⟨i, -, rfl⟩ := List.mem_map.mp ha
    have := hlt _ h
    omega
  have hP0 : va_P D cl (X ++ va_pl L f) F.heap := hP.kept (fun k9 x hx => hold x.1 ((hP k9 x hx).lt))
  have hP1 : va_P D cl ((X ++ va_pl L f) ++ [(H.size, .inl (cA, n.toNatClampNeg, .inr (.inr (.inr (.inr (fun i => if i < n.toNatClampNeg then some (H.size + 1 + i) else none))))))]) F.heap := hP0.app (fun k9 x hx => by
    have h0 : k9 < 1 := (List.getElem?_eq_some_iff.mp hx).1
    rw [show k9 = 0 by omega] at hx
    cases hx
    exact f2)
  have hP2 : va_P D cl (((X ++ va_pl L f) ++ [(H.size, .inl (cA, n.toNatClampNeg, .inr (.inr (.inr (.inr (fun i => if i < n.toNatClampNeg then some (H.size + 1 + i) else none))))))]) ++ ((List.range n.toNatClampNeg).map (fun i => H.size + 1 + i)).map (fun a => (a, .inl (cy, z)))) F.heap := hP1.app (fun k9 x hx => by
    obtain ⟨a, ha, rfl⟩ := List.mem_map.mp (List.mem_of_getElem? hx)
    obtain ⟨i, hi, rfl⟩ := List.mem_map.mp ha
    exact hrow i (List.mem_range.mp hi))
  have hD2 : va_D A (((X ++ va_pl L f) ++ [(H.size, .inl (cA, n.toNatClampNeg, .inr (.inr (.inr (.inr (fun i => if i < n.toNatClampNeg then some (H.size + 1 + i) else none))))))]) ++ ((List.range n.toNatClampNeg).map (fun i => H.size + 1 + i)).map (fun a => (a, .inl (cy, z)))) := by
    have hD1 := hD.push (e := .inl (cA, n.toNatClampNeg, .inr (.inr (.inr (.inr (fun i => if i < n.toNatClampNeg then some (H.size + 1 + i) else none)))))) hP rfl (hA _ hS.1)
    generalize hW1 : (X ++ va_pl L f) ++ [(H.size, .inl (cA, n.toNatClampNeg, .inr (.inr (.inr (.inr (fun i => if i < n.toNatClampNeg then some (H.size + 1 + i) else none))))))] = W1 at hD1 hP1 ⊢
    have hle : ∀ (k9 : Nat) (x : Nat × va_E), W1[k9]? = some x → x.1 ≤ H.size := fun k9 x hx => by
      rw [← hW1] at hx
      by_cases hl : k9 < (X ++ va_pl L f).length
      · rw [List.getElem?_append_left hl] at hx
        exact Nat.le_of_lt ((hP k9 x hx).lt)
      · rw [List.getElem?_append_right (by omega)] at hx
        have h0 : k9 - (X ++ va_pl L f).length < 1 := (List.getElem?_eq_some_iff.mp hx).1
        rw [show k9 - (X ++ va_pl L f).length = 0 by omega] at hx
        cases hx
        exact Nat.le_refl _
    have hr : ∀ (k9 : Nat) (x : Nat × va_E), (((List.range n.toNatClampNeg).map (fun i => H.size + 1 + i)).map (fun a => ((a, .inl (cy, z)) : Nat × va_E)))[k9]? = some x → x.1 = H.size + 1 + k9 := fun k9 x hx => by
      rw [List.getElem?_map, List.getElem?_map] at hx
      by_cases h9 : k9 < n.toNatClampNeg
      · rw [List.getElem?_range h9] at hx
        cases hx
        rfl
      · have hn0 : (List.range n.toNatClampNeg)[k9]? = none := List.getElem?_eq_none (by rw [List.length_range]; omega)
        rw [hn0] at hx
        cases hx
    refine ⟨fun i j x y hi hj hxy => ?_, fun k9 x hx => ?_⟩
    · by_cases h1 : i < W1.length <;> by_cases h2 : j < W1.length
      · rw [List.getElem?_append_left h1] at hi
        rw [List.getElem?_append_left h2] at hj
        exact hD1.1 i j x y hi hj hxy
      · rw [List.getElem?_append_left h1] at hi
        rw [List.getElem?_append_right (by omega)] at hj
        have := hle _ _ hi
        have := hr _ _ hj
        omega
      · rw [List.getElem?_append_right (by omega)] at hi
        rw [List.getElem?_append_left h2] at hj
        have := hle _ _ hj
        have := hr _ _ hi
        omega
      · rw [List.getElem?_append_right (by omega)] at hi hj
        have := hr _ _ hi
        have := hr _ _ hj
        omega
    · by_cases h1 : k9 < W1.length
      · rw [List.getElem?_append_left h1] at hx
        exact hD1.2 k9 x hx
      · rw [List.getElem?_append_right (by omega)] at hx
        have := hr _ _ hx
        exact hA _ (by have := hS.1; omega)
  have hAr : ArrOfT s cA (.array ty) := fun N9 z9 => by
    obtain ⟨-, k9, hk9, cm9, hkk9⟩ := (hO 0 0 0).1
    exact ⟨(fun q hq => by cases hq), k9, hk9, cm9, hkk9⟩
  have hK2 : va_K D cl (tys ++ [(cA, .array ty)]) s := ⟨hK.1, fun k9 x hx => by
    by_cases hl : k9 < tys.length
    · rw [List.getElem?_append_left hl] at hx
      exact hK.2 k9 x hx
    · rw [List.getElem?_append_right (by omega)] at hx
      have h0 : k9 - tys.length < 1 := (List.getElem?_eq_some_iff.mp hx).1
      rw [show k9 - tys.length = 0 by omega] at hx
      cases hx
      exact ⟨hAr, fA⟩⟩
  obtain ⟨t, a1, b1⟩ := kk H.size (fun i => H.size + 1 + i) cA F.heap (fun i j _ _ h => by have h9 : H.size + 1 + i = H.size + 1 + j := h; omega) hnl hK2 (by rw [← vr_rows hnm]; exact vr_lay hP2) (by rw [← vr_rows hnm]; exact vr_layD hD2) ⟨by rw [f1]; have := hS.1; omega, fun x h1 h2 => (hold x (Nat.lt_of_lt_of_le h1 hS.1)).trans (hS.2.1 x h1 h2), hS.2.2⟩ F rfl X'
  refine ⟨t, step t ?_, b1⟩
  have e : T.heap.size = H.size := by rw [hT]
  rw [e]
  exact a1
end VGM
/-! ===== END ===== -/

/-! ===== BEGIN exceptions that leave a method, and their catching by the caller (launches without stack traces) ===== -/
section VXA
/-! The laws vx_back, vx_callV, vx_callS, vx_callSW, vx_throw0, vx_throwS follow proofs of the library, with one case more: JvmDerived/Free/Laws.lean (Back.of_free), Shelf42/LK1.lean (callV, callS), Shelf/KitTraced.lean (throwNew0V, throwNewS). -/
/-- where a method has thrown q: the class by its name, the cell, what was written, the world -/
def vx_T (XC : String → State → State → Prop) (st : State) (q : Addr) (t : State) (mc ms : Nat) (free : Addr → Prop) : Prop :=
  ∃ (E : String) (ce : Cell) (L : List Loc), XC E st t ∧ t.heap[q]? = some ce ∧ ce.vm = .none ∧ st.vm.findClass E = some ce.cls ∧ st.WarmedH t.vm ∧ st.sameButNew ({ t with vm := st.vm } : State) L mc ms ∧ ∀ z ∈ L, free z.base
def vx_Q (Qc : Array Value → State → Outcome → State → Prop) (XC : String → State → State → Prop) (mc ms : Nat) (free : Addr → Prop) : Array Value → State → Outcome → State → Prop := fun a st o t =>
  (Qc a st o t ∧ ∃ L, FrameEnd st o t L mc ms ∧ ∀ q ∈ L, free q.base) ∨ ∃ q, o = .threw q ∧ vx_T XC st q t mc ms free
/-- a callee that returns or throws -/
def vx_Met (l : Launch) (y : MethodName) (ws : List Cond) (rm : Room) (Pc : Array Value → State → Prop) (Qc : Array Value → State → Outcome → State → Prop) (XC : String → State → State → Prop) (mc ms : Nat) (free : Addr → Prop) : Prop :=
  MetFree l y (headSpec ws rm) Pc (fun _ _ _ _ _ => True) (vx_Q Qc XC mc ms free)
def vx_Post (XC : String → State → State → Prop) (mc ms : Nat) (free : Addr → Prop) : Pt → Array Value → Addr → Pt → Prop := fun A a q B =>
  ∃ (g : JFrame) (mk : MethodId) (t : State) (L : List Loc) (E : String) (ce : Cell), B.U.heap = t.heap ∧ B.U.vm = t.vm ∧ XC E (A.U.calling g mk a) t ∧ t.heap[q]? = some ce ∧ ce.vm = .none ∧ A.U.vm.findClass E = some ce.cls ∧ B.locs = A.locs ++ L ∧ (∀ z ∈ L, free z.base) ∧ B.cells = A.cells + mc ∧ B.slots = A.slots + ms
def vx_Back (l : Launch) (R : Room) (p : Program) (e : Env) (below : List Frame) (s : State) (sargs : Array Value) (y : MethodName) (len W9 : Nat)
    (Pre : Pt → Array Value → Prop) (Post : Pt → Array Value → Option Value → Pt → Prop) (PostX : Pt → Array Value → Addr → Pt → Prop) : Prop :=
  ∀ (m : MethodId) (meth : Method) (c : Code) (A : Pt) (g : JFrame) (ig : Instr) (mk : MethodId) (a : Array Value),
    Stand p l e R s m sargs below meth c A.U A.locs A.cells A.slots → g.method = m → g.locals.size = c.maxLocals → decode c.code g.pc = .ok (ig, len) →
    2 * g.monitorRoom + (g.stack.map fun v => v.category).sum ≤ W9 → A.U.methodNamed? y = some mk → Pre A a →
    (∃ (v : Option Value) (B : Pt), Stand p l e R s m sargs below meth c B.U B.locs B.cells B.slots ∧ Post A a v B ∧
      Steps p.tables e below (doInvoke e (A.U.setTop g) [] mk a).1 (B.U.setTop { g with pc := g.pc + len, stack := v.toList ++ g.stack })) ∨
    (∃ (q : Addr) (B : Pt), Stand p l e R s m sargs below meth c B.U B.locs B.cells B.slots ∧ PostX A a q B ∧
      Steps p.tables e below (doInvoke e (A.U.setTop g) [] mk a).1 ((B.U.setTop g).pushFrame (.throwing q)))
section Payer
variable {l : Launch} {R : Room} {p : Program} {e : Env} {below : List Frame} {s : State} {sargs : Array Value} {y : MethodName} {len W9 : Nat}
theorem vx_back {ws : List Cond} {rm : Room} {Pc : Array Value → State → Prop} {Qc : Array Value → State → Outcome → State → Prop} {XC : String → State → State → Prop} {mc ms : Nat} {free : Addr → Prop} {bytes : ByteArray} {maxL : Nat} {ret : Option FieldType}
    (hM : vx_Met l y ws rm Pc Qc XC mc ms free) (hblind : FrameBlind Pc) (hrc : rm.cells = mc) (hrs : rm.slots = ms)
    (hframes : rm.frames + 1 ≤ R.frames) (hlocals : W9 + (maxL + 11) + rm.locals ≤ R.locals)
    (hws : ∀ w ∈ ws, ∀ a' U, s.WarmedH U.vm → w.before a' U = true) (hcode : Cond.code y bytes maxL ret ∈ ws) (hinit : ∀ a' U, s.WarmedH U.vm → (Cond.initialized y.cls).before a' U = true) :
    vx_Back l R p e below s sargs y len W9 (PreOf R mc ms Pc) (PostOf Qc mc ms free) (vx_Post XC mc ms free) := by
  intro m meth c A g ig mk a X hg hsize hdg hW hn hp
  have h1 : (headSpec ws rm).pre.before a A.U = true := atoms_intro fun w hw => hws w hw _ _ X.warmed
  have h2 : (Cond.code y bytes maxL ret).before a A.U = true := hws _ hcode _ _ X.warmed
  have h3 : (Cond.initialized y.cls).before a A.U = true := hinit _ _ X.warmed
  have h4 : A.cells + (headSpec ws rm).room.cells ≤ R.cells := by rw [show (headSpec ws rm).room.cells = mc from hrc]; exact hp.1
  have h5 : A.slots + (headSpec ws rm).room.slots ≤ R.slots := by rw [show (headSpec ws rm).room.slots = ms from hrs]; exact hp.2.1
  have hPc : Pc a (A.U.calling g mk a) := hblind _ _ _ _ hp.2.2
  obtain ⟨U, Ls, c0, s0⟩ := A
  dsimp only [Pt.U, Pt.locs, Pt.cells, Pt.slots] at h1 h2 h3 h4 h5 X hn hPc ⊢
  obtain ⟨methY, cY, hmY, hcY, -, hlY, -, -, -, -⟩ := Cond.code_spec hn h2
  obtain ⟨kY, hkY, -⟩ := className_of_methodNamed hn
  have hinitY : kY.init = .initialized := Cond.initialized_spec (findClass_of_methodNamed hn) hkY h3
  have h : At U g.method c below := by rw [hg]; exact X.here
  have hlocals9 : W9 + (maxL + 11) + (headSpec ws rm).room.locals ≤ R.locals := hlocals
  have happ : (headSpec ws rm).appliesLoose y e.platform (U.calling g mk a) = true :=
    Spec.appliesLoose_calling (g := g) h hdg hn hkY hinitY
      (X.room_calling (g := g) (R' := (headSpec ws rm).room) hsize hmY hcY hframes (by rw [hlY]; omega) h4 h5) h1
  obtain ⟨mid, hmid⟩ := h.above
  have hfr : (U.setTop g).frames = (.java g :: mid) ++ below := by rw [State.frames_setTop' g h.top, hmid]; rfl
  obtain ⟨o, s₂, hsteps, -, hend, hq⟩ := Steps.callFree hM p X.admits X.cas X.clock (acts := []) hfr happ hPc trivial
  have hq' : vx_Q Qc XC mc ms free a (U.calling g mk a) o s₂ := hq
  rw [State.frames_setTop' g h.top] at hend
  obtain ⟨g₀, hg0⟩ := Option.isSome_iff_exists.mp h.top
  obtain ⟨r, hr⟩ := State.topJava?_eq_some.mp hg0
  have hr' : (({ U with heap := s₂.heap, slotsUsed := s₂.slotsUsed } : State).setVm s₂.vm).frames = .java g₀ :: r := hr
  rcases hq' with ⟨hqc, L, hfe, hL⟩ | ⟨q, rfl, E, ce, L, hx, hce, hcv, hcl, hW₂, hsm, hL⟩
  · obtain ⟨⟨v, rfl⟩, hW₂, e2, q2, q3, q4, q5, q6⟩ := id hfe
    have e3 : s₂ = ({ (U.calling g mk a).setFrames s₂.frames with heap := s₂.heap, slotsUsed := s₂.slotsUsed } : State).setVm s₂.vm := by
      have : s₂ = ({ s₂ with vm := (U.calling g mk a).vm } : State).setVm s₂.vm := rfl
      rw [e2] at this
      exact this
    obtain ⟨c₂, i₂, len₂, hc₂, hd₂, hf₂⟩ := hend
    have hW' : U.WarmedH s₂.vm := hW₂
    have hcc : c₂ = c := by
      have h1 : s₂.code? g.method = U.code? g.method := by
        rw [State.code?_eq, State.code?_eq, hW'.alike.method?]
      exact Option.some.inj (hc₂.symm.trans (h1.trans h.code))
    subst hcc
    have hlen : len₂ = len := by rw [hdg] at hd₂; cases hd₂; rfl
    subst hlen
    have hs₂ : s₂ = (({ U with heap := s₂.heap, slotsUsed := s₂.slotsUsed } : State).setVm s₂.vm).setTop { g with pc := g.pc + len₂, stack := v.toList ++ g.stack } := by
      refine e3.trans ?_
      rw [hf₂, State.calling_eq h.top, State.setFrames_setFrames, State.setTop_of_frames _ hr', hr]
      rfl
    have hsame : U.sameButNew ({ U with heap := s₂.heap, slotsUsed := s₂.slotsUsed } : State) L mc ms := by
      refine ⟨?_, q2, q3, q4, q5, q6⟩
      obtain ⟨t, ht, -⟩ := State.frames_cons hr
      show ({ U with heap := s₂.heap, slotsUsed := s₂.slotsUsed } : State) = { U.setFrames U.frames with heap := s₂.heap, slotsUsed := s₂.slotsUsed }
      rw [State.setFrames_self ht]
    subst hg
    refine Or.inl ⟨v, ⟨(({ U with heap := s₂.heap, slotsUsed := s₂.slotsUsed } : State).setVm s₂.vm), Ls ++ L, c0 + mc, s0 + ms⟩,
      ⟨X.admits, X.cas, X.clock, X.frames, X.room, X.hears, X.method, X.code, (X.here.setHeapUsed s₂.heap s₂.slotsUsed).setVm hW'.alike, X.tail, State.WarmedH.trans X.warmed hW', X.limits, X.bytes, X.same.trans (hsame.setVm s.vm)⟩,
      ⟨g, mk, s₂, L, rfl, rfl, hqc, rfl, hL, rfl, rfl⟩, ?_⟩
    show Steps p.tables e below _ ((({ U with heap := s₂.heap, slotsUsed := s₂.slotsUsed } : State).setVm s₂.vm).setTop { g with pc := g.pc + len₂, stack := v.toList ++ g.stack })
    rw [← hs₂]
    exact hsteps
  · obtain ⟨e2, q2, q3, q4, q5, q6⟩ := id hsm
    have e3 : s₂ = ({ (U.calling g mk a).setFrames s₂.frames with heap := s₂.heap, slotsUsed := s₂.slotsUsed } : State).setVm s₂.vm := by
      have : s₂ = ({ s₂ with vm := (U.calling g mk a).vm } : State).setVm s₂.vm := rfl
      rw [e2] at this
      exact this
    have hf₂ : s₂.frames = .throwing q :: .java g :: U.frames.tail := hend
    have hW' : U.WarmedH s₂.vm := hW₂
    have hs₂ : s₂ = ((({ U with heap := s₂.heap, slotsUsed := s₂.slotsUsed } : State).setVm s₂.vm).setTop g).pushFrame (.throwing q) := by
      refine e3.trans ?_
      rw [hf₂, State.calling_eq h.top, State.setFrames_setFrames, State.pushFrame, State.frames_setTop _ hr', State.setTop_of_frames _ hr', State.setFrames_setFrames, hr]
      rfl
    have hsame : U.sameButNew ({ U with heap := s₂.heap, slotsUsed := s₂.slotsUsed } : State) L mc ms := by
      refine ⟨?_, q2, q3, q4, q5, q6⟩
      obtain ⟨t, ht, -⟩ := State.frames_cons hr
      show ({ U with heap := s₂.heap, slotsUsed := s₂.slotsUsed } : State) = { U.setFrames U.frames with heap := s₂.heap, slotsUsed := s₂.slotsUsed }
      rw [State.setFrames_self ht]
    subst hg
    refine Or.inr ⟨q, ⟨(({ U with heap := s₂.heap, slotsUsed := s₂.slotsUsed } : State).setVm s₂.vm), Ls ++ L, c0 + mc, s0 + ms⟩,
      ⟨X.admits, X.cas, X.clock, X.frames, X.room, X.hears, X.method, X.code, (X.here.setHeapUsed s₂.heap s₂.slotsUsed).setVm hW'.alike, X.tail, State.WarmedH.trans X.warmed hW', X.limits, X.bytes, X.same.trans (hsame.setVm s.vm)⟩,
      ⟨g, mk, s₂, L, E, ce, rfl, rfl, hx, hce, hcv, hcl, rfl, hL, rfl, rfl⟩, ?_⟩
    show Steps p.tables e below _ (((({ U with heap := s₂.heap, slotsUsed := s₂.slotsUsed } : State).setVm s₂.vm).setTop g).pushFrame (.throwing q))
    rw [← hs₂]
    exact hsteps
end Payer
section Calls
variable {p : Program} {l : Launch} {e : Env} {R : Room} {s : State} {m : MethodId} {args : Array Value} {below : List Frame} {meth : Method} {c : Code} {T : State} {locs : List Loc} {cells slots : Nat}
theorem vx_callV (X : Stand p l e R s m args below meth c T locs cells slots) (hexec : p.tables.exec = Jvm.exec) {own C : String} {index : Nat} {y : MethodName} {bytes : ByteArray} {maxL : Nat} {ret : Option FieldType}
    (hown : s.vm.findClass own = some m.cls) (hlink : (Cond.methodLink own index y).before args s = true) (hinst : (Cond.instanceMethod y).before args s = true) (hsel : (Cond.selects C y y).before args s = true)
    (hcode : (Cond.code y bytes maxL ret).before args s = true) (hy : y.cls ≠ "java/lang/invoke/MethodHandle" ∧ y.cls ≠ "java/lang/invoke/VarHandle")
    {W9 : Nat} {Pre : Pt → Array Value → Prop} {Post : Pt → Array Value → Option Value → Pt → Prop} {PostX : Pt → Array Value → Addr → Pt → Prop} (hK : vx_Back l R p e below s args y 3 W9 Pre Post PostX)
    {b : Addr} {cellB : Cell} (hcell : T.heap[b]? = some cellB) (hobj : cellB.vm.isStatics = false) (hcls : s.vm.findClass C = some cellB.cls)
    {g : JFrame} (hg : g.method = m) (hsize : g.locals.size = c.maxLocals) {argsL rest : List Value} (hlen : ∀ sig, parseMethodDescriptor y.desc = some sig → argsL.length = sig.parameters.length)
    (hstack : g.stack = argsL.reverse ++ .ref b :: rest) (hW : 2 * g.monitorRoom + (rest.map fun v => v.category).sum ≤ W9) (hdg : decode c.code g.pc = .ok (.invokevirtual index, 3))
    (hpre : ∀ vm₁, s.WarmedH vm₁ → Pre ⟨T.setVm vm₁, locs, cells, slots⟩ (Value.ref b :: argsL).toArray) :
    (∃ (v : Option Value) (vm₁ : Vm) (B : Pt), s.WarmedH vm₁ ∧ Stand p l e R s m args below meth c B.U B.locs B.cells B.slots ∧ Post ⟨T.setVm vm₁, locs, cells, slots⟩ (Value.ref b :: argsL).toArray v B ∧
      ∀ target, Steps p.tables e below (B.U.setTop { g with pc := g.pc + 3, stack := v.toList ++ rest }) target → Steps p.tables e below (T.setTop g) target) ∨
    (∃ (q : Addr) (vm₁ : Vm) (B : Pt), s.WarmedH vm₁ ∧ Stand p l e R s m args below meth c B.U B.locs B.cells B.slots ∧ PostX ⟨T.setVm vm₁, locs, cells, slots⟩ (Value.ref b :: argsL).toArray q B ∧
      Steps p.tables e below (T.setTop g) ((B.U.setTop { g with stack := rest }).pushFrame (.throwing q))) := by
  obtain ⟨mk, methM, hnamed, hmethM, hstM, habM⟩ := Cond.instanceMethod_spec hinst
  obtain ⟨methM', cM, hmethM', -, -, -, -, -, -, hsigM⟩ := Cond.code_spec hnamed hcode
  cases hmethM.symm.trans hmethM'
  obtain ⟨c2, r2, m2, q1, q2, q3, q4, kP, hkP, hkPi⟩ := Cond.selects_spec hsel
  cases hcls.symm.trans q1
  cases (State.methodFound?_of_named hnamed hy).symm.trans q2
  cases hnamed.symm.trans q3
  have hselP : selectMethod e.platform s.vm cellB.cls mk = .method mk := by rw [Launch.admits_selectMethod X.admits]; exact q4
  obtain ⟨vm₁, X₁, hstep₁⟩ := X.invokevirtual hexec hown hlink hnamed hmethM hstM hkP hkPi hy (a := b) (cell := cellB) hcell
    (fun z h => by rw [h] at hobj; cases hobj) hselP hmethM habM hkP hkPi (g := g) hg (argsL := argsL) (rest := rest) (hlen _ hsigM) hstack hdg
  rcases hK m meth c ⟨T.setVm vm₁, locs, cells, slots⟩ { g with stack := rest } (.invokevirtual index) mk (Value.ref b :: argsL).toArray X₁ hg hsize hdg hW (X₁.named hnamed) (hpre vm₁ X₁.warmed) with ⟨v, B, X', hpost, hsteps⟩ | ⟨q, B, X', hpost, hsteps⟩
  · exact Or.inl ⟨v, vm₁, B, X₁.warmed, X', hpost, fun target h => hstep₁ _ fun acts => by rw [doInvoke_state]; exact hsteps.trans h⟩
  · exact Or.inr ⟨q, vm₁, B, X₁.warmed, X', hpost, hstep₁ _ fun acts => by rw [doInvoke_state]; exact hsteps⟩
theorem vx_callS (X : Stand p l e R s m args below meth c T locs cells slots) (hexec : p.tables.exec = Jvm.exec) {own : String} {index : Nat} {y : MethodName} {bytes : ByteArray} {maxL : Nat} {ret : Option FieldType}
    (hown : s.vm.findClass own = some m.cls) (hlink : (Cond.methodLink own index y).before args s = true) (hstat : (Cond.static y).before args s = true) (hinit : (Cond.initialized y.cls).before args s = true)
    (hcode : (Cond.code y bytes maxL ret).before args s = true) (hy : y.cls ≠ "java/lang/invoke/MethodHandle" ∧ y.cls ≠ "java/lang/invoke/VarHandle")
    {W9 : Nat} {Pre : Pt → Array Value → Prop} {Post : Pt → Array Value → Option Value → Pt → Prop} {PostX : Pt → Array Value → Addr → Pt → Prop} (hK : vx_Back l R p e below s args y 3 W9 Pre Post PostX)
    {g : JFrame} (hg : g.method = m) (hsize : g.locals.size = c.maxLocals) {argsL rest : List Value} (hlen : ∀ sig, parseMethodDescriptor y.desc = some sig → argsL.length = sig.parameters.length)
    (hstack : g.stack = argsL.reverse ++ rest) (hW : 2 * g.monitorRoom + (rest.map fun v => v.category).sum ≤ W9) (hdg : decode c.code g.pc = .ok (.invokestatic index, 3))
    (hpre : ∀ vm₁, s.WarmedH vm₁ → Pre ⟨T.setVm vm₁, locs, cells, slots⟩ argsL.toArray) :
    (∃ (v : Option Value) (vm₁ : Vm) (B : Pt), s.WarmedH vm₁ ∧ Stand p l e R s m args below meth c B.U B.locs B.cells B.slots ∧ Post ⟨T.setVm vm₁, locs, cells, slots⟩ argsL.toArray v B ∧
      ∀ target, Steps p.tables e below (B.U.setTop { g with pc := g.pc + 3, stack := v.toList ++ rest }) target → Steps p.tables e below (T.setTop g) target) ∨
    (∃ (q : Addr) (vm₁ : Vm) (B : Pt), s.WarmedH vm₁ ∧ Stand p l e R s m args below meth c B.U B.locs B.cells B.slots ∧ PostX ⟨T.setVm vm₁, locs, cells, slots⟩ argsL.toArray q B ∧
      Steps p.tables e below (T.setTop g) ((B.U.setTop { g with stack := rest }).pushFrame (.throwing q))) := by
  obtain ⟨mk, hnamed⟩ := Cond.code_named hcode
  obtain ⟨methM, cM, hmethM, -, -, -, -, -, -, hsigM⟩ := Cond.code_spec hnamed hcode
  have hstatic : methM.isStatic = true := Cond.static_spec hnamed hmethM hstat
  obtain ⟨kP, hkP, -⟩ := className_of_methodNamed hnamed
  have hinitP : kP.init = .initialized := Cond.initialized_spec (findClass_of_methodNamed hnamed) hkP hinit
  obtain ⟨vm₁, X₁, hstep₁⟩ := X.invokestatic hexec hown hlink hnamed hmethM hstatic hkP hinitP hy (g := g) hg (argsL := argsL) (rest := rest) (hlen _ hsigM) hstack hdg
  rcases hK m meth c ⟨T.setVm vm₁, locs, cells, slots⟩ { g with stack := rest } (.invokestatic index) mk argsL.toArray X₁ hg hsize hdg hW (X₁.named hnamed) (hpre vm₁ X₁.warmed) with ⟨v, B, X', hpost, hsteps⟩ | ⟨q, B, X', hpost, hsteps⟩
  · exact Or.inl ⟨v, vm₁, B, X₁.warmed, X', hpost, fun target h => hstep₁ _ fun acts => by rw [doInvoke_state]; exact hsteps.trans h⟩
  · exact Or.inr ⟨q, vm₁, B, X₁.warmed, X', hpost, hstep₁ _ fun acts => by rw [doInvoke_state]; exact hsteps⟩
end Calls
theorem vx_cls {s : State} {T : State} {vm₁ : Vm} {E : String} {k : ClassId} (hW : s.WarmedH vm₁) (h : (T.setVm vm₁).vm.findClass E = some k) : s.vm.findClass E = some k := by
  have h1 : vm₁.findClass E = some k := h
  rw [hW.alike.findClass] at h1
  exact h1
/-- the method's frame g, with q thrown over it -/
def vx_W (p : Program) (l : Launch) (e : Env) (R : Room) (s : State) (m : MethodId) (args : Array Value) (below : List Frame) (meth : Method) (c : Code) (H : Heap) (locs : List Loc) (cells slots : Nat) (Q : State → Prop) (g : JFrame) (q : Addr) : Prop :=
  ∀ T : State, T.heap = H → Stand p l e R s m args below meth c T locs cells slots → ∃ t, Steps p.tables e below ((T.setTop g).pushFrame (.throwing q)) t ∧ Q t
def vx_Run (p : Program) (l : Launch) (e : Env) (R : Room) (s : State) (m : MethodId) (args : Array Value) (below : List Frame) (meth : Method) (c : Code) (H : Heap) (locs : List Loc) (cells slots mc ms : Nat) (g : JFrame) (rest : List Value) (Qa : State → Outcome → State → Prop) (XC : String → State → State → Prop) (free : Addr → Prop) : Prop :=
  ∀ T : State, T.heap = H → Stand p l e R s m args below meth c T locs cells slots →
    (∃ (v : Option Value) (st₀ t T' : State) (L : List Loc), st₀.heap = H ∧ Stand p l e R s m args below meth c T' (locs ++ L) (cells + mc) (slots + ms) ∧ (∀ q ∈ L, free q.base) ∧ T'.heap = t.heap ∧ T'.vm = t.vm ∧ Qa st₀ (.returned v) t ∧
      Goes p e below T g T' { g with pc := g.pc + 3, stack := v.toList ++ rest }) ∨
    (∃ (q : Addr) (st₀ t T' : State) (L : List Loc) (E : String) (ce : Cell), st₀.heap = H ∧ Stand p l e R s m args below meth c T' (locs ++ L) (cells + mc) (slots + ms) ∧ (∀ z ∈ L, free z.base) ∧ T'.heap = t.heap ∧ T'.vm = t.vm ∧ XC E st₀ t ∧ t.heap[q]? = some ce ∧ ce.vm = .none ∧ s.vm.findClass E = some ce.cls ∧
      Steps p.tables e below (T.setTop g) ((T'.setTop { g with stack := rest }).pushFrame (.throwing q)))
def vx_X {S : Type} (px : S → Prop) (B : String → S → State → Prop) (A : Nat → Prop) : String → State → State → Prop := fun E st t => ∃ u : S, px u ∧ B E u t ∧ va_F A st t
section Runs
variable {p : Program} {l : Launch} {e : Env} {R : Room} {s : State} {m : MethodId} {args : Array Value} {below : List Frame} {meth : Method} {c : Code} {H : Heap} {locs : List Loc} {cells slots : Nat}
variable {y : MethodName} {bytes cc : ByteArray} {maxL nL mc ms n index : Nat} {ret : Option FieldType} {ws : List Cond} {rm : Room} {Pc : Array Value → State → Prop} {Qc : Array Value → State → Outcome → State → Prop} {XC : String → State → State → Prop} {free : Addr → Prop} {Ts : List Cond} {own C : String} {b : Addr} {As rest : List Value} {g : JFrame}
theorem vx_callBack (cb : CallB R s args own index y bytes maxL ret ws rm mc ms n) (hM : vx_Met l y ws rm Pc Qc XC mc ms free) (hbl : FrameBlind Pc) : vx_Back l R p e below s args y 3 8 (PreOf R mc ms Pc) (PostOf Qc mc ms free) (vx_Post XC mc ms free) := by
  obtain ⟨hrc, hrs, hfr, hlo, hws, hcw, -, hini, -⟩ := cb
  exact vx_back (bytes := bytes) (maxL := maxL) (ret := ret) hM hbl hrc hrs hfr hlo hws hcw (fun a' U hW => word_at hW (Or.inl (by first | rfl | simp [Cond.onTables, Cond.keeps, Cond.steady])) hini)
theorem vx_runV (S : CallFix p m c cc nL s args Ts own) (hM : vx_Met l y ws rm Pc Qc XC mc ms free) (cw : CallW R s args own C index y bytes maxL ret ws rm mc ms n) (hp : PreV s H C b Pc As)
    (hg : g.method = m) (hn : As.length = n) (hsize : g.locals.size = nL) (hstack : g.stack = As.reverse ++ .ref b :: rest) (hW : 2 * g.monitorRoom + (rest.map fun v => v.category).sum ≤ 8) (hdg : decode cc g.pc = .ok (.invokevirtual index, 3)) (hf : cells + mc ≤ R.cells ∧ slots + ms ≤ R.slots) :
    vx_Run p l e R s m args below meth c H locs cells slots mc ms g rest (Qc (Value.ref b :: As).toArray) XC free := by
  have hK : vx_Back l R p e below s args y 3 8 (PreOf R mc ms Pc) (PostOf Qc mc ms free) (vx_Post XC mc ms free) := vx_callBack cw.1 hM hp.1
  obtain ⟨⟨-, -, -, -, -, -, hcode, -, hy, hlen, hl⟩, hin, hse⟩ := cw
  obtain ⟨hx, hb, hml, ho, -⟩ := S
  obtain ⟨-, ⟨cellB, hcB, hoB, hclB⟩, hPc⟩ := hp
  intro T hT X
  rcases vx_callV X hx (C := C) (bytes := bytes) (maxL := maxL) (ret := ret) ho hl hin hse hcode hy hK (by rw [hT]; exact hcB) hoB hclB hg (hsize.trans hml.symm) (argsL := As) (rest := rest) (fun sig h => hn.trans (hlen sig h)) hstack hW (by rw [hb]; exact hdg)
    (fun vm₁ hW₁ => ⟨hf.1, hf.2, hPc (T.setVm vm₁) hT hW₁⟩) with ⟨v, vm₁, ⟨U', l2, c2, s2⟩, hW₁, X', ⟨g', mk, t, L, e1, e2, hq, h1, hL, h2, h3⟩, st⟩ | ⟨q, vm₁, ⟨U', l2, c2, s2⟩, hW₁, X', ⟨g', mk, t, L, E, ce, e1, e2, hq, hce, hcv, hcl, h1, hL, h2, h3⟩, st⟩
  · dsimp only [Pt.U, Pt.locs, Pt.cells, Pt.slots] at X' e1 e2 h1 h2 h3 st
    subst h1; subst h2; subst h3
    exact Or.inl ⟨v, (T.setVm vm₁).calling g' mk (Value.ref b :: As).toArray, t, U', L, hT, X', hL, e1, e2, hq, st⟩
  · dsimp only [Pt.U, Pt.locs, Pt.cells, Pt.slots] at X' e1 e2 h1 h2 h3 st hcl
    subst h1; subst h2; subst h3
    exact Or.inr ⟨q, (T.setVm vm₁).calling g' mk (Value.ref b :: As).toArray, t, U', L, E, ce, hT, X', hL, e1, e2, hq, hce, hcv, vx_cls hW₁ hcl, st⟩
theorem vx_runS (S : CallFix p m c cc nL s args Ts own) (hM : vx_Met l y ws rm Pc Qc XC mc ms free) (cw : CallB R s args own index y bytes maxL ret ws rm mc ms n ∧ (Cond.static y).before args s = true) (hp : PreS s H Pc As)
    (hg : g.method = m) (hn : As.length = n) (hsize : g.locals.size = nL) (hstack : g.stack = As.reverse ++ rest) (hW : 2 * g.monitorRoom + (rest.map fun v => v.category).sum ≤ 8) (hdg : decode cc g.pc = .ok (.invokestatic index, 3)) (hf : cells + mc ≤ R.cells ∧ slots + ms ≤ R.slots) :
    vx_Run p l e R s m args below meth c H locs cells slots mc ms g rest (Qc As.toArray) XC free := by
  have hK : vx_Back l R p e below s args y 3 8 (PreOf R mc ms Pc) (PostOf Qc mc ms free) (vx_Post XC mc ms free) := vx_callBack cw.1 hM hp.1
  obtain ⟨⟨-, -, -, -, -, -, hcode, hini, hy, hlen, hl⟩, hstt⟩ := cw
  obtain ⟨hx, hb, hml, ho, -⟩ := S
  intro T hT X
  rcases vx_callS X hx (bytes := bytes) (maxL := maxL) (ret := ret) ho hl hstt hini hcode hy hK hg (hsize.trans hml.symm) (argsL := As) (rest := rest) (fun sig h => hn.trans (hlen sig h)) hstack hW (by rw [hb]; exact hdg)
    (fun vm₁ hW₁ => ⟨hf.1, hf.2, hp.2 (T.setVm vm₁) hT hW₁⟩) with ⟨v, vm₁, ⟨U', l2, c2, s2⟩, hW₁, X', ⟨g', mk, t, L, e1, e2, hq, h1, hL, h2, h3⟩, st⟩ | ⟨q, vm₁, ⟨U', l2, c2, s2⟩, hW₁, X', ⟨g', mk, t, L, E, ce, e1, e2, hq, hce, hcv, hcl, h1, hL, h2, h3⟩, st⟩
  · dsimp only [Pt.U, Pt.locs, Pt.cells, Pt.slots] at X' e1 e2 h1 h2 h3 st
    subst h1; subst h2; subst h3
    exact Or.inl ⟨v, (T.setVm vm₁).calling g' mk As.toArray, t, U', L, hT, X', hL, e1, e2, hq, st⟩
  · dsimp only [Pt.U, Pt.locs, Pt.cells, Pt.slots] at X' e1 e2 h1 h2 h3 st hcl
    subst h1; subst h2; subst h3
    exact Or.inr ⟨q, (T.setVm vm₁).calling g' mk As.toArray, t, U', L, E, ce, hT, X', hL, e1, e2, hq, hce, hcv, vx_cls hW₁ hcl, st⟩
end Runs
section Rows
variable {p : Program} {l : Launch} {e : Env} {R : Room} {s : State} {m : MethodId} {args : Array Value} {below : List Frame} {meth : Method} {c : Code} {H : Heap} {locs : List Loc} {cells slots : Nat} {Q : State → Prop}
variable {mc ms : Nat} {free : Addr → Prop} {A0 A1 : Nat → Prop} {H0 : Heap} {a : Array Value} {pc : Nat} {ls : Array Slot} {st0 rest : List Value}
theorem vx_keep {st₀ t T' : State} {L : List Loc} (h0 : st₀.heap = H) (e1 : T'.heap = t.heap) (hS : va_S A0 H0 H locs) (hA : ∀ q, q < H.size → A1 q → A0 q) (hf : ∀ q, free q → A0 q) (hL : ∀ q ∈ L, free q.base) (hF : va_F A1 st₀ t) :
    H.size ≤ T'.heap.size ∧ (∀ q : Nat, q < H.size → ¬ A1 q → T'.heap[q]? = H[q]?) ∧ va_S A0 H0 T'.heap (locs ++ L) := by
  obtain ⟨hz, hk⟩ := hF
  rw [h0] at hz hk
  exact ⟨by rw [e1]; exact hz, fun q h1 h2 => by rw [e1]; exact hk q h1 h2,
    ⟨Nat.le_trans hS.1 (by rw [e1]; exact hz), fun q h1 h2 => by rw [e1, hk q (Nat.lt_of_lt_of_le h1 hS.1) (fun z => h2 (hA q (Nat.lt_of_lt_of_le h1 hS.1) z))]; exact hS.2.1 q h1 h2, fun q hq => by
      rcases List.mem_append.mp hq with h | h
      · exact hS.2.2 q h
      · exact hf _ (hL q h)⟩⟩
theorem vx_calli {S SX : Type} {post : Int32 → S → Prop} {px : SX → Prop} {B : S → State → Prop} {BX : String → SX → State → Prop} {AX : Nat → Prop} (hr : vx_Run p l e R s m args below meth c H locs cells slots mc ms (F0 m pc ls st0) rest (va_Qi post B A1 a) (vx_X px BX AX) free) (hS : va_S A0 H0 H locs) (hA : ∀ q, q < H.size → A1 q → A0 q) (hf : ∀ q, free q → A0 q) (hAX : ∀ q, q < H.size → AX q → A0 q)
    (kx : ∀ (E : String) (ce : Cell) (q9 : Addr) (u : SX) (t : State) (H1 : Heap) (locs1 : List Loc), t.heap = H1 → s.vm.Alike t.vm → px u → BX E u t → H.size ≤ H1.size → (∀ q : Nat, q < H.size → ¬ AX q → H1[q]? = H[q]?) → va_S A0 H0 H1 locs1 → H1[q9]? = some ce → ce.vm = .none → s.vm.findClass E = some ce.cls → vx_W p l e R s m args below meth c H1 locs1 (cells + mc) (slots + ms) Q (F0 m pc ls rest) q9)
    (kk : ∀ (r : Int32) (u : S) (t : State) (H1 : Heap) (locs1 : List Loc), t.heap = H1 → s.vm.Alike t.vm → post r u → B u t → H.size ≤ H1.size → (∀ q : Nat, q < H.size → ¬ A1 q → H1[q]? = H[q]?) → va_S A0 H0 H1 locs1 → W p l e R s m args below meth c H1 locs1 (cells + mc) (slots + ms) Q (F0 m (pc + 3) ls (.int r :: rest))) : W p l e R s m args below meth c H locs cells slots Q (F0 m pc ls st0) := by
  intro T hT X
  rcases hr T hT X with ⟨v, st₀, t, T', L, h0, X', hL, e1, e2, ⟨⟨r, u, hv, hp, hb⟩, hF⟩, st⟩ | ⟨q, st₀, t, T', L, E, ce, h0, X', hL, e1, e2, ⟨u, hp, hb, hF⟩, hce, hcv, hcl, st⟩
  · cases hv
    obtain ⟨k1, k2, k3⟩ := vx_keep h0 e1 hS hA hf hL hF
    obtain ⟨t2, a1, b1⟩ := kk r u t T'.heap (locs ++ L) e1.symm (by rw [← e2]; exact X'.warmed.alike) hp hb k1 k2 k3 T' rfl X'
    exact ⟨t2, st t2 a1, b1⟩
  · obtain ⟨k1, k2, k3⟩ := vx_keep h0 e1 hS hAX hf hL hF
    obtain ⟨t2, a1, b1⟩ := kx E ce q u t T'.heap (locs ++ L) e1.symm (by rw [← e2]; exact X'.warmed.alike) hp hb k1 k2 k3 (by rw [e1]; exact hce) hcv hcl T' rfl X'
    exact ⟨t2, st.trans a1, b1⟩
theorem vx_calll {S SX : Type} {post : Int64 → S → Prop} {px : SX → Prop} {B : S → State → Prop} {BX : String → SX → State → Prop} {AX : Nat → Prop} (hr : vx_Run p l e R s m args below meth c H locs cells slots mc ms (F0 m pc ls st0) rest (va_Ql post B A1 a) (vx_X px BX AX) free) (hS : va_S A0 H0 H locs) (hA : ∀ q, q < H.size → A1 q → A0 q) (hf : ∀ q, free q → A0 q) (hAX : ∀ q, q < H.size → AX q → A0 q)
    (kx : ∀ (E : String) (ce : Cell) (q9 : Addr) (u : SX) (t : State) (H1 : Heap) (locs1 : List Loc), t.heap = H1 → s.vm.Alike t.vm → px u → BX E u t → H.size ≤ H1.size → (∀ q : Nat, q < H.size → ¬ AX q → H1[q]? = H[q]?) → va_S A0 H0 H1 locs1 → H1[q9]? = some ce → ce.vm = .none → s.vm.findClass E = some ce.cls → vx_W p l e R s m args below meth c H1 locs1 (cells + mc) (slots + ms) Q (F0 m pc ls rest) q9)
    (kk : ∀ (r : Int64) (u : S) (t : State) (H1 : Heap) (locs1 : List Loc), t.heap = H1 → s.vm.Alike t.vm → post r u → B u t → H.size ≤ H1.size → (∀ q : Nat, q < H.size → ¬ A1 q → H1[q]? = H[q]?) → va_S A0 H0 H1 locs1 → W p l e R s m args below meth c H1 locs1 (cells + mc) (slots + ms) Q (F0 m (pc + 3) ls (.long r :: rest))) : W p l e R s m args below meth c H locs cells slots Q (F0 m pc ls st0) := by
  intro T hT X
  rcases hr T hT X with ⟨v, st₀, t, T', L, h0, X', hL, e1, e2, ⟨⟨r, u, hv, hp, hb⟩, hF⟩, st⟩ | ⟨q, st₀, t, T', L, E, ce, h0, X', hL, e1, e2, ⟨u, hp, hb, hF⟩, hce, hcv, hcl, st⟩
  · cases hv
    obtain ⟨k1, k2, k3⟩ := vx_keep h0 e1 hS hA hf hL hF
    obtain ⟨t2, a1, b1⟩ := kk r u t T'.heap (locs ++ L) e1.symm (by rw [← e2]; exact X'.warmed.alike) hp hb k1 k2 k3 T' rfl X'
    exact ⟨t2, st t2 a1, b1⟩
  · obtain ⟨k1, k2, k3⟩ := vx_keep h0 e1 hS hAX hf hL hF
    obtain ⟨t2, a1, b1⟩ := kx E ce q u t T'.heap (locs ++ L) e1.symm (by rw [← e2]; exact X'.warmed.alike) hp hb k1 k2 k3 (by rw [e1]; exact hce) hcv hcl T' rfl X'
    exact ⟨t2, st.trans a1, b1⟩
theorem vx_callf {S SX : Type} {post : UInt32 → S → Prop} {px : SX → Prop} {B : S → State → Prop} {BX : String → SX → State → Prop} {AX : Nat → Prop} (hr : vx_Run p l e R s m args below meth c H locs cells slots mc ms (F0 m pc ls st0) rest (va_Qf post B A1 a) (vx_X px BX AX) free) (hS : va_S A0 H0 H locs) (hA : ∀ q, q < H.size → A1 q → A0 q) (hf : ∀ q, free q → A0 q) (hAX : ∀ q, q < H.size → AX q → A0 q)
    (kx : ∀ (E : String) (ce : Cell) (q9 : Addr) (u : SX) (t : State) (H1 : Heap) (locs1 : List Loc), t.heap = H1 → s.vm.Alike t.vm → px u → BX E u t → H.size ≤ H1.size → (∀ q : Nat, q < H.size → ¬ AX q → H1[q]? = H[q]?) → va_S A0 H0 H1 locs1 → H1[q9]? = some ce → ce.vm = .none → s.vm.findClass E = some ce.cls → vx_W p l e R s m args below meth c H1 locs1 (cells + mc) (slots + ms) Q (F0 m pc ls rest) q9)
    (kk : ∀ (r : UInt32) (u : S) (t : State) (H1 : Heap) (locs1 : List Loc), t.heap = H1 → s.vm.Alike t.vm → post r u → B u t → H.size ≤ H1.size → (∀ q : Nat, q < H.size → ¬ A1 q → H1[q]? = H[q]?) → va_S A0 H0 H1 locs1 → W p l e R s m args below meth c H1 locs1 (cells + mc) (slots + ms) Q (F0 m (pc + 3) ls (.float r :: rest))) : W p l e R s m args below meth c H locs cells slots Q (F0 m pc ls st0) := by
  intro T hT X
  rcases hr T hT X with ⟨v, st₀, t, T', L, h0, X', hL, e1, e2, ⟨⟨r, u, hv, hp, hb⟩, hF⟩, st⟩ | ⟨q, st₀, t, T', L, E, ce, h0, X', hL, e1, e2, ⟨u, hp, hb, hF⟩, hce, hcv, hcl, st⟩
  · cases hv
    obtain ⟨k1, k2, k3⟩ := vx_keep h0 e1 hS hA hf hL hF
    obtain ⟨t2, a1, b1⟩ := kk r u t T'.heap (locs ++ L) e1.symm (by rw [← e2]; exact X'.warmed.alike) hp hb k1 k2 k3 T' rfl X'
    exact ⟨t2, st t2 a1, b1⟩
  · obtain ⟨k1, k2, k3⟩ := vx_keep h0 e1 hS hAX hf hL hF
    obtain ⟨t2, a1, b1⟩ := kx E ce q u t T'.heap (locs ++ L) e1.symm (by rw [← e2]; exact X'.warmed.alike) hp hb k1 k2 k3 (by rw [e1]; exact hce) hcv hcl T' rfl X'
    exact ⟨t2, st.trans a1, b1⟩
theorem vx_calld {S SX : Type} {post : UInt64 → S → Prop} {px : SX → Prop} {B : S → State → Prop} {BX : String → SX → State → Prop} {AX : Nat → Prop} (hr : vx_Run p l e R s m args below meth c H locs cells slots mc ms (F0 m pc ls st0) rest (va_Qd post B A1 a) (vx_X px BX AX) free) (hS : va_S A0 H0 H locs) (hA : ∀ q, q < H.size → A1 q → A0 q) (hf : ∀ q, free q → A0 q) (hAX : ∀ q, q < H.size → AX q → A0 q)
    (kx : ∀ (E : String) (ce : Cell) (q9 : Addr) (u : SX) (t : State) (H1 : Heap) (locs1 : List Loc), t.heap = H1 → s.vm.Alike t.vm → px u → BX E u t → H.size ≤ H1.size → (∀ q : Nat, q < H.size → ¬ AX q → H1[q]? = H[q]?) → va_S A0 H0 H1 locs1 → H1[q9]? = some ce → ce.vm = .none → s.vm.findClass E = some ce.cls → vx_W p l e R s m args below meth c H1 locs1 (cells + mc) (slots + ms) Q (F0 m pc ls rest) q9)
    (kk : ∀ (r : UInt64) (u : S) (t : State) (H1 : Heap) (locs1 : List Loc), t.heap = H1 → s.vm.Alike t.vm → post r u → B u t → H.size ≤ H1.size → (∀ q : Nat, q < H.size → ¬ A1 q → H1[q]? = H[q]?) → va_S A0 H0 H1 locs1 → W p l e R s m args below meth c H1 locs1 (cells + mc) (slots + ms) Q (F0 m (pc + 3) ls (.double r :: rest))) : W p l e R s m args below meth c H locs cells slots Q (F0 m pc ls st0) := by
  intro T hT X
  rcases hr T hT X with ⟨v, st₀, t, T', L, h0, X', hL, e1, e2, ⟨⟨r, u, hv, hp, hb⟩, hF⟩, st⟩ | ⟨q, st₀, t, T', L, E, ce, h0, X', hL, e1, e2, ⟨u, hp, hb, hF⟩, hce, hcv, hcl, st⟩
  · cases hv
    obtain ⟨k1, k2, k3⟩ := vx_keep h0 e1 hS hA hf hL hF
    obtain ⟨t2, a1, b1⟩ := kk r u t T'.heap (locs ++ L) e1.symm (by rw [← e2]; exact X'.warmed.alike) hp hb k1 k2 k3 T' rfl X'
    exact ⟨t2, st t2 a1, b1⟩
  · obtain ⟨k1, k2, k3⟩ := vx_keep h0 e1 hS hAX hf hL hF
    obtain ⟨t2, a1, b1⟩ := kx E ce q u t T'.heap (locs ++ L) e1.symm (by rw [← e2]; exact X'.warmed.alike) hp hb k1 k2 k3 (by rw [e1]; exact hce) hcv hcl T' rfl X'
    exact ⟨t2, st.trans a1, b1⟩
theorem vx_callv {S SX : Type} {post : S → Prop} {px : SX → Prop} {B : S → State → Prop} {BX : String → SX → State → Prop} {AX : Nat → Prop} (hr : vx_Run p l e R s m args below meth c H locs cells slots mc ms (F0 m pc ls st0) rest (va_Qv post B A1 a) (vx_X px BX AX) free) (hS : va_S A0 H0 H locs) (hA : ∀ q, q < H.size → A1 q → A0 q) (hf : ∀ q, free q → A0 q) (hAX : ∀ q, q < H.size → AX q → A0 q)
    (kx : ∀ (E : String) (ce : Cell) (q9 : Addr) (u : SX) (t : State) (H1 : Heap) (locs1 : List Loc), t.heap = H1 → s.vm.Alike t.vm → px u → BX E u t → H.size ≤ H1.size → (∀ q : Nat, q < H.size → ¬ AX q → H1[q]? = H[q]?) → va_S A0 H0 H1 locs1 → H1[q9]? = some ce → ce.vm = .none → s.vm.findClass E = some ce.cls → vx_W p l e R s m args below meth c H1 locs1 (cells + mc) (slots + ms) Q (F0 m pc ls rest) q9)
    (kk : ∀ (u : S) (t : State) (H1 : Heap) (locs1 : List Loc), t.heap = H1 → s.vm.Alike t.vm → post u → B u t → H.size ≤ H1.size → (∀ q : Nat, q < H.size → ¬ A1 q → H1[q]? = H[q]?) → va_S A0 H0 H1 locs1 → W p l e R s m args below meth c H1 locs1 (cells + mc) (slots + ms) Q (F0 m (pc + 3) ls (rest))) : W p l e R s m args below meth c H locs cells slots Q (F0 m pc ls st0) := by
  intro T hT X
  rcases hr T hT X with ⟨v, st₀, t, T', L, h0, X', hL, e1, e2, ⟨⟨u, hv, hp, hb⟩, hF⟩, st⟩ | ⟨q, st₀, t, T', L, E, ce, h0, X', hL, e1, e2, ⟨u, hp, hb, hF⟩, hce, hcv, hcl, st⟩
  · cases hv
    obtain ⟨k1, k2, k3⟩ := vx_keep h0 e1 hS hA hf hL hF
    obtain ⟨t2, a1, b1⟩ := kk u t T'.heap (locs ++ L) e1.symm (by rw [← e2]; exact X'.warmed.alike) hp hb k1 k2 k3 T' rfl X'
    exact ⟨t2, st t2 a1, b1⟩
  · obtain ⟨k1, k2, k3⟩ := vx_keep h0 e1 hS hAX hf hL hF
    obtain ⟨t2, a1, b1⟩ := kx E ce q u t T'.heap (locs ++ L) e1.symm (by rw [← e2]; exact X'.warmed.alike) hp hb k1 k2 k3 (by rw [e1]; exact hce) hcv hcl T' rfl X'
    exact ⟨t2, st.trans a1, b1⟩
/-- caught by the row x of this method's table; the rows ahead don't take it -/
theorem vx_catch {own name : String} {E : String} {ce : Cell} {q : Addr} (hown : s.vm.findClass own = some m.cls) (pre : List ExceptionTableEntry) (x : ExceptionTableEntry) (suf : List ExceptionTableEntry) (hsplit : c.exceptionTable.toList = pre ++ x :: suf)
    (hpass : ∀ z ∈ pre, covers z pc = false ∨ (z.catchType ≠ 0 ∧ ∃ nm : String, (Cond.classLink own z.catchType nm).before args s = true ∧ va_Nc E nm s)) (hx : covers x pc = true) (h0 : x.catchType ≠ 0)
    (hlink : (Cond.classLink own x.catchType name).before args s = true) (hcast : (Cond.castable E name).before args s = true) (hcell : H[q]? = some ce) (hv : ce.vm = .none) (hcl : s.vm.findClass E = some ce.cls)
    (kk : W p l e R s m args below meth c H locs cells slots Q (F0 m x.handlerPc ls [.ref q])) : vx_W p l e R s m args below meth c H locs cells slots Q (F0 m pc ls rest) q := by
  intro T hT X
  have hpl : e.platform.magicAccessors = ({} : Platform).magicAccessors := by rw [X.admits.platform]
  obtain ⟨c3, c4, hc3, hc4, hasg⟩ := Cond.castable_spec hcast
  cases Option.some.inj (hc3.symm.trans hcl)
  obtain ⟨c5, hc5, hcl5⟩ := Cond.classLink_spec hown hlink e.platform hpl
  cases Option.some.inj (hc4.symm.trans hc5)
  obtain ⟨vm', X', st⟩ := X.thenCaughtThrough q (g := F0 m pc ls rest) rfl (Steps.refl _) (by rw [hT]; exact hcell) (by rw [hv]; rfl) (by obtain ⟨k9, h9, -⟩ := Vm.findClass_spec hcl; exact ⟨k9, h9⟩) pre x suf hsplit
    (fun z hz => by
      rcases hpass z hz with h | ⟨hz0, nm, hl1, hn1⟩
      · exact Or.inl h
      · obtain ⟨c6, hc6, hcl6⟩ := Cond.classLink_spec hown hl1 e.platform hpl
        obtain ⟨a8, b8, h1, h2, h3⟩ := hn1
        cases Option.some.inj (h1.symm.trans hcl)
        cases Option.some.inj (h2.symm.trans hc6)
        exact Or.inr ⟨hz0, _, hcl6, h3⟩) hx (Or.inr ⟨h0, c4, hcl5, hasg⟩)
  obtain ⟨t, a1, b1⟩ := kk (T.setVm vm') hT X'
  exact ⟨t, st.trans a1, b1⟩
end Rows
section Ends
variable {p : Program} {l : Launch} {e : Env} {R : Room} {s : State} {m : MethodId} {args : Array Value} {below : List Frame} {meth : Method} {c : Code} {H : Heap} {locs : List Loc} {cells slots : Nat} {Q : State → Prop}
variable {mc ms : Nat} {free : Addr → Prop} {A0 A1 : Nat → Prop} {H0 : Heap} {a : Array Value} {ls : Array Slot} {st0 rest : List Value}
variable {Qc : Array Value → State → Outcome → State → Prop} {XC : String → State → State → Prop}
/-- what a body that may throw owes at its end -/
def vx_MQ (below : List Frame) (Qc : Array Value → State → Outcome → State → Prop) (XC : String → State → State → Prop) (a : Array Value) (s : State) (mc ms : Nat) (free : Addr → Prop) : State → Prop := fun t =>
  ∃ o, t.status = .running ∧ Ended t below o ∧ vx_Q Qc XC mc ms free a s o t
theorem vx_ret {g : JFrame} {mc ms : Nat} (k : W p l e R s m args below meth c H locs cells slots (MQ below Qc args s mc ms free) g) : W p l e R s m args below meth c H locs cells slots (vx_MQ below Qc XC args s mc ms free) g := by
  intro T hT X
  obtain ⟨t, a1, o, b1, b2, b3, b4⟩ := k T hT X
  exact ⟨t, a1, o, b1, b2, Or.inl ⟨b3, b4⟩⟩
/-- not caught here: it goes on to the caller -/
theorem vx_widen {g : JFrame} {q : Addr} {k n : Nat} (h1 : cells ≤ k) (h2 : slots ≤ n) (kk : vx_W p l e R s m args below meth c H locs k n Q g q) : vx_W p l e R s m args below meth c H locs cells slots Q g q := fun T hT X => kk T hT (stand_widen X h1 h2)
theorem vx_out {pc : Nat} {E : String} {ce : Cell} {q : Addr} {mc ms : Nat} (hout : ∀ x ∈ c.exceptionTable.toList, covers x pc = false) (hlocks : meth.locks = false) (hcell : H[q]? = some ce) (hv : ce.vm = .none) (hcl : s.vm.findClass E = some ce.cls)
    (hx : ∀ t : State, t.heap = H → s.vm.Alike t.vm → XC E s t) (hf : ∀ z ∈ locs, free z.base) (hc : cells ≤ mc) (hs : slots ≤ ms) :
    vx_W p l e R s m args below meth c H locs cells slots (vx_MQ below Qc XC args s mc ms free) (F0 m pc ls rest) q := by
  intro T hT X
  obtain ⟨st1, hrun, hend, hW, hsm⟩ := X.leaveThrown q (g := F0 m pc ls rest) rfl rfl rfl hout hlocks
  have hcell9 : (T.setFrames (.throwing q :: below)).heap[q]? = some ce := by
    show T.heap[q]? = some ce
    rw [hT]; exact hcell
  exact ⟨_, st1, .threw q, hrun, hend, Or.inr ⟨q, rfl, E, ce, locs, hx _ hT hW.alike, hcell9, hv, hcl, hW, hsm.mono hc hs, hf⟩⟩
theorem vx_frame {U : State} {k n : Nat} (h : s.sameButNew ({ U with vm := s.vm } : State) locs k n) : s.heap.size ≤ U.heap.size ∧ ∀ q : Nat, q < s.heap.size → (∀ z ∈ locs, z.base ≠ q) → U.heap[q]? = s.heap[q]? := by
  obtain ⟨-, h2, -, -, -, h6⟩ := h
  refine ⟨h2, fun q hq hz => ?_⟩
  obtain ⟨c9, e1, e2, e3, e4⟩ := h6 q _ (Array.getElem?_eq_getElem hq)
  have hs : c9.slots = (s.heap[q]).slots := Array.ext_getElem? fun i => e4 i fun hm => hz _ hm rfl
  have h9 : c9 = s.heap[q] := by
    rw [hs] at e2
    exact e2
  have e5 : U.heap[q]? = some c9 := e1
  rw [e5, h9, Array.getElem?_eq_getElem hq]
/-- the words of a throw but the four that speak of the heap -/
def vx_no (w : Cond) : Bool := decide (w ≠ .isRef (.static Bundle.tN "UNASSIGNED_STACK" Bundle.steD)) && decide (w ≠ .isRef (.static Bundle.tN "SUPPRESSED_SENTINEL" Bundle.listD)) && decide (w ≠ .laysStatic Bundle.tN "UNASSIGNED_STACK" Bundle.steD) && decide (w ≠ .laysStatic Bundle.tN "SUPPRESSED_SENTINEL" Bundle.listD)
def vx_at0 (own : String) (ic : Nat) (X : String) (names : List String) : List Cond := (Bundle.ownAtoms0 own ic X names).filter vx_no
def vx_atS (own : String) (ic : Nat) (X : String) (names : List String) : List Cond := (Bundle.ownAtoms own ic X names).filter vx_no
/-- a word that the tables alone decide, or a good one -/
def vx_ot (w : Cond) : Bool := w.onTables || goodWord w
theorem vx_ot_at {args a' : Array Value} {s U : State} {w : Cond} (hW : s.WarmedH U.vm) (hvm : s.vm = U.vm) (hg : vx_ot w = true) (h : w.before args s = true) : w.before a' U = true := by
  simp only [vx_ot, Bool.or_eq_true] at hg
  rcases hg with hg | hg
  · exact va_tabs hg hvm h
  · exact word_at hW (good_of_word hg) h
/-- a list's words: the good ones out of the method's own list, the others by premises of their own -/
theorem vx_hat {args : Array Value} {s : State} {L B : List Cond} (h1 : ∀ w ∈ L.filter goodWord, w.before args s = true) (h2 : ∀ w ∈ L.filter (fun w => !goodWord w), w ∈ B) (h3 : ∀ w ∈ B, w.before args s = true) : ∀ w ∈ L, w.before args s = true := by
  intro w hw
  by_cases g : goodWord w = true
  · exact h1 w (List.mem_filter.mpr ⟨hw, g⟩)
  · refine h3 w (h2 w (List.mem_filter.mpr ⟨hw, ?_⟩))
    show (!goodWord w) = true
    cases hgw : goodWord w
    · rfl
    · exact absurd hgw g
theorem vx_c {args : Array Value} {s : State} {w : Cond} {B : List Cond} (h : w.before args s = true) (t : ∀ w ∈ B, w.before args s = true) : ∀ w' ∈ w :: B, w'.before args s = true := fun w' h' => (List.mem_cons.mp h').elim (fun e => by rw [e]; exact h) (t w')
theorem vx_n {args : Array Value} {s : State} : ∀ w ∈ ([] : List Cond), w.before args s = true := fun _ h => nomatch h
theorem vx_own {args : Array Value} {s : State} {L : List Cond} (h1 : ∀ w ∈ L.filter vx_no, w.before args s = true)
    (hU : (Cond.isRef (.static Bundle.tN "UNASSIGNED_STACK" Bundle.steD)).before args s = true) (hN : (Cond.isRef (.static Bundle.tN "SUPPRESSED_SENTINEL" Bundle.listD)).before args s = true)
    (lU : (Cond.laysStatic Bundle.tN "UNASSIGNED_STACK" Bundle.steD).before args s = true) (lN : (Cond.laysStatic Bundle.tN "SUPPRESSED_SENTINEL" Bundle.listD).before args s = true) : ∀ w ∈ L, w.before args s = true := by
  intro w hw
  by_cases e1 : w = .isRef (.static Bundle.tN "UNASSIGNED_STACK" Bundle.steD)
  · rw [e1]; exact hU
  · by_cases e2 : w = .isRef (.static Bundle.tN "SUPPRESSED_SENTINEL" Bundle.listD)
    · rw [e2]; exact hN
    · by_cases e3 : w = .laysStatic Bundle.tN "UNASSIGNED_STACK" Bundle.steD
      · rw [e3]; exact lU
      · by_cases e4 : w = .laysStatic Bundle.tN "SUPPRESSED_SENTINEL" Bundle.listD
        · rw [e4]; exact lN
        · exact h1 w (List.mem_filter.mpr ⟨hw, by unfold vx_no; rw [decide_eq_true e1, decide_eq_true e2, decide_eq_true e3, decide_eq_true e4]; rfl⟩)
/-- where a static field lies, its class's statics cell in H -/
def vx_L (C n d : String) (A : Nat → Prop) (U : State) (H : Heap) : Prop := ∃ (c : ClassId) (k : Class) (i : Nat) (f : Field) (a : Nat) (cell : Cell), U.vm.findClass C = some c ∧ U.fieldFound? C n d = some (c, k, i, f) ∧ f.isStatic = true ∧ k.statics = some a ∧ H[a]? = some cell ∧ cell.vm.isStatics = true ∧ cell.cls = c ∧ f.slot < cell.slots.size ∧ k.staticTypes[f.slot]? = some f.type ∧ ¬ A a
theorem vx_L.moved {C n d : String} {A : Nat → Prop} {u U : State} {H : Heap} (hvm : u.vm.Alike U.vm) (h : vx_L C n d A u H) : vx_L C n d A U H := by
  obtain ⟨c, k, i, f, a, cell, h1, h2, h3, h4, h5, h6, h7, h8, h9, h10⟩ := h
  obtain ⟨k', hi', he⟩ := State.fieldFound?_setVm hvm h2
  exact ⟨c, k', i, f, a, cell, by rw [hvm.findClass]; exact h1, hi', h3, by rw [he]; exact h4, h5, h6, h7, h8, by rw [he]; exact h9, h10⟩
theorem vx_L.kept {C n d : String} {A : Nat → Prop} {U : State} {H H1 : Heap} (h : vx_L C n d A U H) (hq : ∀ a : Nat, a < H.size → ¬ A a → H1[a]? = H[a]?) : vx_L C n d A U H1 := by
  obtain ⟨c, k, i, f, a, cell, h1, h2, h3, h4, h5, h6, h7, h8, h9, h10⟩ := h
  exact ⟨c, k, i, f, a, cell, h1, h2, h3, h4, by rw [hq a (Array.getElem?_eq_some_iff.mp h5).1 h10]; exact h5, h6, h7, h8, h9, h10⟩
theorem vx_L.narrow {C n d : String} {A B : Nat → Prop} {U : State} {H : Heap} (h : vx_L C n d A U H) (hAB : ∀ q, B q → A q) : vx_L C n d B U H := by
  obtain ⟨c, k, i, f, a, cell, h1, h2, h3, h4, h5, h6, h7, h8, h9, h10⟩ := h
  exact ⟨c, k, i, f, a, cell, h1, h2, h3, h4, h5, h6, h7, h8, h9, fun z => h10 (hAB _ z)⟩
theorem vx_L.word {C n d : String} {A : Nat → Prop} {s : State} {args : Array Value} (h : vx_L C n d A s s.heap) : (Cond.laysStatic C n d).before args s = true := by
  obtain ⟨c, k, i, f, a, cell, h1, h2, h3, h4, h5, h6, h7, h8, h9, -⟩ := h
  show (Cond.laysStatic C n d).holds args s none s [] = true
  exact Cond.laysStatic_of h1 h2 h3 h4 h5 h6 h7 h8 h9
/-- .. and what it holds: null or some reference -/
def vx_Zq (C n d : String) (A : Nat → Prop) (U : State) (H : Heap) : Prop := va_Zq C n d A U H ∧ vx_L C n d A U H
theorem vx_Zq.moved {C n d : String} {A : Nat → Prop} {u U : State} {H : Heap} (hvm : u.vm.Alike U.vm) (h : vx_Zq C n d A u H) : vx_Zq C n d A U H := ⟨va_Zq.moved hvm h.1, vx_L.moved hvm h.2⟩
theorem vx_Zq.kept {C n d : String} {A : Nat → Prop} {U : State} {H H1 : Heap} (h : vx_Zq C n d A U H) (hq : ∀ a : Nat, a < H.size → ¬ A a → H1[a]? = H[a]?) : vx_Zq C n d A U H1 := ⟨va_Zq.kept h.1 hq, vx_L.kept h.2 hq⟩
theorem vx_Zq.narrow {C n d : String} {A B : Nat → Prop} {U : State} {H : Heap} (h : vx_Zq C n d A U H) (hAB : ∀ q, B q → A q) : vx_Zq C n d B U H := ⟨va_Zq.narrow h.1 hAB, vx_L.narrow h.2 hAB⟩
theorem vx_Zqof {args : Array Value} {s : State} {C n d : String} {A : Nat → Prop} (hl : (Cond.laysStatic C n d).before args s = true) (hini : (Cond.initialized C).before args s = true) (h : (Cond.isRef (.static C n d)).before args s = true) (hA : ∀ a : Nat, a < s.heap.size → ¬ A a) : vx_Zq C n d A s s.heap := by
  refine ⟨va_Zqof hl hini h hA, ?_⟩
  obtain ⟨c, k, i, f, a, cell, h1, h2, h3, h4, h5, h6, h7, h8, h9⟩ := Cond.laysStatic_spec hl
  exact ⟨c, k, i, f, a, cell, h1, h2, h3, h4, h5, h6, h7, h8, h9, hA a (Array.getElem?_eq_some_iff.mp h5).1⟩
theorem vx_isRef {C n d : String} {v : Value} {A : Nat → Prop} {s : State} {args : Array Value} (h : va_Z C n d v A s s.heap) (hv : v.isRef = true) : (Cond.isRef (.static C n d)).before args s = true := by
  obtain ⟨cf, kf, fi, f, a, cell, h1, h2, h3, h4, h5, h6, h7, -⟩ := h
  have he : (Term.static C n d).eval args s none [] s = some v := by
    simp [Term.eval, State.fieldNamed?, h1, h2, h4, h5, h6, h7]
  simp only [Cond.before, Cond.holds, Cond.value, he]
  cases v <;> simp_all [Value.isRef]
theorem vx_isRefq {C n d : String} {A : Nat → Prop} {s : State} {args : Array Value} (h : va_Zq C n d A s s.heap) : (Cond.isRef (.static C n d)).before args s = true := by
  rcases h with h | ⟨t, h⟩
  · exact vx_isRef h rfl
  · exact vx_isRef h rfl
/-- the same frame, seen from here: as if the method were called anew in this heap -/
theorem vx_rebase {T : State} (X : Stand p l e R s m args below meth c T locs cells slots) {R' : Room} (hf : R'.frames ≤ R.frames) (hl : R'.locals ≤ R.locals) (hc : cells + R'.cells ≤ R.cells) (hs : slots + R'.slots ≤ R.slots) :
    Stand p l e R' ((T.setVm s.vm).setFrames (.invoking m args :: below)) m args below meth c T [] 0 0 := by
  have htop : (T.setVm s.vm).topJava?.isSome := X.here.top
  have hF : ((T.setVm s.vm).setFrames (.invoking m args :: below)).frames = .invoking m args :: below := State.frames_setFrames _ (State.cur_lt_of_top htop)
  obtain ⟨g₀, hg0⟩ := Option.isSome_iff_exists.mp htop
  obtain ⟨r, hr⟩ := State.topJava?_eq_some.mp hg0
  have hl9 : e.platform.stackLimits (T.setVm s.vm).me = e.platform.stackLimits s.me := X.limits
  have hb9 : (T.setVm s.vm).me.stackBytes = s.me.stackBytes := X.bytes
  refine ⟨X.admits, X.cas, X.clock, hF, ?_, X.hears, X.method, X.code, X.here, X.tail, X.warmed, ?_, ?_, ?_⟩
  · have h := X.room
    have hU : ((T.setVm s.vm).setFrames (.invoking m args :: below)).localsInUse = s.localsInUse := by
      rw [State.localsInUse_invoking hF (meth := meth) (c := c) X.method X.code, State.localsInUse_invoking X.frames X.method X.code]
    simp only [State.hasRoom, Bool.and_eq_true, decide_eq_true_eq] at h ⊢
    obtain ⟨⟨⟨⟨h1, h2, h3, h4, h5, h6⟩, h7⟩, h8⟩, h9⟩ := h
    rw [X.frames, List.length_cons] at h2 h3
    have q1 := X.heapSize
    have q2 := X.used
    simp only [hF, hU, List.length_cons, State.stackLimits_setFrames, State.stackBytes_setFrames, hl9, hb9]
    refine ⟨⟨⟨⟨by omega, by omega, by omega, by omega, by omega, h6⟩, ?_⟩, ?_⟩, X.book⟩
    · show T.heap.size + R'.cells ≤ e.platform.maxCells
      omega
    · show T.slotsUsed + R'.slots ≤ e.platform.maxSlots
      omega
  · rw [State.stackLimits_setFrames]; rfl
  · rw [State.stackBytes_setFrames]; rfl
  · refine ⟨?_, Nat.le_refl _, Nat.le_refl _, ?_, ?_, fun a c9 h9 => ⟨c9, h9, rfl, rfl, fun _ _ => rfl⟩⟩
    · obtain ⟨t, ht, -⟩ := State.frames_cons hr
      show T.setVm s.vm = { ((T.setVm s.vm).setFrames (.invoking m args :: below)).setFrames (T.setVm s.vm).frames with heap := T.heap, slotsUsed := T.slotsUsed }
      rw [State.setFrames_setFrames, State.setFrames_self ht]
      rfl
    · show T.slotsUsed = T.slotsUsed + ((T.heap.toList.drop T.heap.size).map (·.slots.size)).sum
      rw [List.drop_eq_nil_of_le (Nat.le_of_eq Array.length_toList)]
      rfl
    · show ((T.heap.toList.drop T.heap.size).map (·.slots.size)).sum ≤ 0
      rw [List.drop_eq_nil_of_le (Nat.le_of_eq Array.length_toList)]
      exact Nat.le_refl _
/-- 'throw new E()': new; dup; invokespecial; athrow -/
theorem vx_throw0 {cc : ByteArray} {pc : Nat} (hexec : p.tables.exec = Jvm.exec) (hb : c.code = cc) (hl : l.stackTraces = false) {own cls : String} {names : List String} {ik ic mc ms : Nat} {A : Nat → Prop}
    (hown : s.vm.findClass own = some m.cls) (hcls : Bundle.fit cls = true) (hnames : ∀ n ∈ names, Bundle.fit n = true)
    (hk : (Cond.classLink own ik cls).before args s = true) (hini : (Cond.initialized cls).before args s = true) (hat : ∀ w ∈ vx_at0 own ic cls names, w.before args s = true)
    (hgood : ∀ w ∈ Cond.classLink own ik cls :: Cond.initialized cls :: vx_at0 own ic cls names, vx_ot w = true)
    (hU : vx_Zq Bundle.tN "UNASSIGNED_STACK" Bundle.steD A s s.heap) (hN : vx_Zq Bundle.tN "SUPPRESSED_SENTINEL" Bundle.listD A s s.heap) (hS : va_S A s.heap H locs) (hsize : ls.size = c.maxLocals)
    (d0 : decode cc pc = .ok (.new ik, 3)) (d3 : decode cc (pc + 3) = .ok (.dup, 1)) (d4 : decode cc (pc + 4) = .ok (.invokespecial ic, 3)) (d7 : decode cc (pc + 7) = .ok (.athrow, 1))
    (hout : ∀ x ∈ c.exceptionTable.toList, covers x (pc + 7) = false)
    (hRframes : names.length + 3 < R.frames) (hRlocals : (rest.map fun v => v.category).sum + (13 * (names.length + 1) + 42) ≤ R.locals) (hRcells : cells + 1 ≤ R.cells) (hRslots : slots + 6 ≤ R.slots) (hlocks : meth.locks = false)
    (hx : ∀ t : State, s.vm.Alike t.vm → H.size ≤ t.heap.size → (∀ q : Nat, q < H.size → t.heap[q]? = H[q]?) → XC cls s t)
    (hf : ∀ z ∈ locs, free z.base) (hc : cells + 1 ≤ mc) (hs : slots + 6 ≤ ms) :
    W p l e R s m args below meth c H locs cells slots (vx_MQ below Qc XC args s mc ms free) (F0 m pc ls rest) := by
  intro T hT X
  have htr : e.platform.stackTraces = false := (show e.platform.stackTraces = l.stackTraces by rw [X.admits.platform]).trans hl
  have Y := vx_rebase X (R' := { frames := R.frames, locals := R.locals, cells := 1, slots := 6 }) (Nat.le_refl _) (Nat.le_refl _) hRcells hRslots
  obtain ⟨s', hA⟩ : ∃ z, z = (T.setVm s.vm).setFrames (.invoking m args :: below) := ⟨_, rfl⟩
  rw [← hA] at Y
  have hvm : s'.vm = s.vm := by rw [hA]; rfl
  have hhp : s'.heap = H := by rw [hA]; exact hT
  have hW0 : s.WarmedH s'.vm := by rw [hvm]; exact State.WarmedH.refl s
  have hat' : ∀ w ∈ vx_at0 own ic cls names, w.before args s' = true := fun w hw => vx_ot_at hW0 hvm.symm (hgood w (List.mem_cons_of_mem _ (List.mem_cons_of_mem _ hw))) (hat w hw)
  have hk' : (Cond.classLink own ik cls).before args s' = true := vx_ot_at hW0 hvm.symm (hgood _ List.mem_cons_self) hk
  have hini' : (Cond.initialized cls).before args s' = true := vx_ot_at hW0 hvm.symm (hgood _ (List.mem_cons_of_mem _ List.mem_cons_self)) hini
  have hU' : vx_Zq Bundle.tN "UNASSIGNED_STACK" Bundle.steD A s' s'.heap := by rw [hhp]; exact vx_Zq.moved hW0.alike (hU.kept hS.2.1)
  have hN' : vx_Zq Bundle.tN "SUPPRESSED_SENTINEL" Bundle.listD A s' s'.heap := by rw [hhp]; exact vx_Zq.moved hW0.alike (hN.kept hS.2.1)
  have h : ∀ w ∈ Bundle.ownAtoms0 own ic cls names, w.before args s' = true := vx_own hat' (vx_isRefq hU'.1) (vx_isRefq hN'.1) hU'.2.word hN'.2.word
  have hown' : s'.vm.findClass own = some m.cls := by rw [hvm]; exact hown
  have hins : (Cond.instantiable cls 6).before args s' = true := h _ (by simp [Bundle.ownAtoms0])
  obtain ⟨vm₁, cX, kX, hfX, hkX, -, -, X₁, st1⟩ := Y.newCold hexec (own := own) (C := cls) (index := ik) (n := 6) hown' hk' hins hini'
    (g := F0 m pc ls rest) rfl (by rw [hb]; exact d0) (Nat.le_refl _) (Nat.le_refl _)
  generalize hT1 : (T.setVm vm₁).pushCell { cls := cX, slots := kX.instanceTypes.map defaultValue, vm := .none } = T1 at X₁ st1
  have hcat : (Value.ref T.heap.size).category = 1 := rfl
  have hcellA : T1.heap[T.heap.size]? = some (freshCell cX kX) := by rw [← hT1]; exact State.heap_pushCell_size _ _
  have d3' : decode c.code (pc + 3) = .ok (.dup, 1) := by rw [hb]; exact d3
  obtain ⟨U, hsteps, hrun, hend, hW, hsame, ce, hce, hO⟩ := X₁.ctorThrow0 hexec htr (own := own) (cls := cls) (names := names) (ic := ic) hown' hcls hnames h (fun x hx => nomatch hx) hfX hkX hcellA (by rw [hhp, hT]; exact Nat.le_refl _)
    (g := { method := m, pc := pc + 4, locals := ls, stack := .ref T.heap.size :: .ref T.heap.size :: rest, locked := none }) rfl hsize rfl rfl (rest := rest) rfl
    (by rw [hb]; exact d4) (by rw [hb]; exact d7) hout hRframes (by simp only [List.map_cons, List.sum_cons, hcat]; omega) hlocks
  obtain ⟨f1, f2⟩ := vx_frame hsame
  rw [hhp] at f1 f2
  have hWs : s.WarmedH U.vm := State.WarmedH.trans hW0 hW
  have hcl : s.vm.findClass cls = some ce.cls := by
    have h9 := hO.cls
    rw [hvm] at h9
    exact h9
  have hall : s.sameButNew ({ U with vm := s.vm } : State) locs mc ms := by
    subst hA
    obtain ⟨e1, e2⟩ := hsame
    rw [State.setFrames_setFrames] at e1
    have h2 : (T.setVm s.vm).sameButNew ({ U with vm := s.vm } : State) [] (0 + 1) (0 + 6) := ⟨e1, e2⟩
    have h3 := X.same.trans h2
    rw [List.append_nil] at h3
    exact h3.mono hc hs
  refine ⟨U, ?_, .threw T.heap.size, hrun, hend, Or.inr ⟨T.heap.size, rfl, cls, ce, locs, hx U hWs.alike f1 (fun q hq => f2 q hq (fun z hz => nomatch hz)), hce, hO.vm, hcl, hWs, hall, hf⟩⟩
  refine st1 _ ?_
  show Steps p.tables e below (T1.setTop { method := m, pc := pc + 3, locals := ls, stack := .ref T.heap.size :: rest, locked := none }) _
  jvm_step X₁.here [X₁.here.top, hexec, d3', Value.category]
  exact hsteps
/-- 'throw new E("text")': new; dup; ldc; invokespecial; athrow -/
theorem vx_throwS {cc : ByteArray} {pc : Nat} (hexec : p.tables.exec = Jvm.exec) (hb : c.code = cc) (hl : l.stackTraces = false) {own cls text : String} {names : List String} {ik is ic mc ms sa : Nat} {A : Nat → Prop}
    (hown : s.vm.findClass own = some m.cls) (hcls : Bundle.fit cls = true) (hnames : ∀ n ∈ names, Bundle.fit n = true)
    (hk : (Cond.classLink own ik cls).before args s = true) (hini : (Cond.initialized cls).before args s = true) (hstr : vk_R own is text sa s) (hat : ∀ w ∈ vx_atS own ic cls names, w.before args s = true)
    (hgood : ∀ w ∈ Cond.classLink own ik cls :: Cond.initialized cls :: vx_atS own ic cls names, vx_ot w = true)
    (hU : vx_Zq Bundle.tN "UNASSIGNED_STACK" Bundle.steD A s s.heap) (hN : vx_Zq Bundle.tN "SUPPRESSED_SENTINEL" Bundle.listD A s s.heap) (hS : va_S A s.heap H locs) (hsize : ls.size = c.maxLocals)
    (d0 : decode cc pc = .ok (.new ik, 3)) (d3 : decode cc (pc + 3) = .ok (.dup, 1)) (d4 : decode cc (pc + 4) = .ok (.ldc is, 2)) (d6 : decode cc (pc + 6) = .ok (.invokespecial ic, 3)) (d9 : decode cc (pc + 9) = .ok (.athrow, 1))
    (hout : ∀ x ∈ c.exceptionTable.toList, covers x (pc + 9) = false)
    (hRframes : names.length + 3 < R.frames) (hRlocals : (rest.map fun v => v.category).sum + (13 * (names.length + 1) + 43) ≤ R.locals) (hRcells : cells + 1 ≤ R.cells) (hRslots : slots + 6 ≤ R.slots) (hlocks : meth.locks = false)
    (hx : ∀ t : State, s.vm.Alike t.vm → H.size ≤ t.heap.size → (∀ q : Nat, q < H.size → t.heap[q]? = H[q]?) → XC cls s t)
    (hf : ∀ z ∈ locs, free z.base) (hc : cells + 1 ≤ mc) (hs : slots + 6 ≤ ms) :
    W p l e R s m args below meth c H locs cells slots (vx_MQ below Qc XC args s mc ms free) (F0 m pc ls rest) := by
  intro T hT X
  have htr : e.platform.stackTraces = false := (show e.platform.stackTraces = l.stackTraces by rw [X.admits.platform]).trans hl
  have Y := vx_rebase X (R' := { frames := R.frames, locals := R.locals, cells := 1, slots := 6 }) (Nat.le_refl _) (Nat.le_refl _) hRcells hRslots
  obtain ⟨s', hA⟩ : ∃ z, z = (T.setVm s.vm).setFrames (.invoking m args :: below) := ⟨_, rfl⟩
  rw [← hA] at Y
  have hvm : s'.vm = s.vm := by rw [hA]; rfl
  have hhp : s'.heap = H := by rw [hA]; exact hT
  have hW0 : s.WarmedH s'.vm := by rw [hvm]; exact State.WarmedH.refl s
  have hat' : ∀ w ∈ vx_atS own ic cls names, w.before args s' = true := fun w hw => vx_ot_at hW0 hvm.symm (hgood w (List.mem_cons_of_mem _ (List.mem_cons_of_mem _ hw))) (hat w hw)
  have hk' : (Cond.classLink own ik cls).before args s' = true := vx_ot_at hW0 hvm.symm (hgood _ List.mem_cons_self) hk
  have hini' : (Cond.initialized cls).before args s' = true := vx_ot_at hW0 hvm.symm (hgood _ (List.mem_cons_of_mem _ List.mem_cons_self)) hini
  have hU' : vx_Zq Bundle.tN "UNASSIGNED_STACK" Bundle.steD A s' s'.heap := by rw [hhp]; exact vx_Zq.moved hW0.alike (hU.kept hS.2.1)
  have hN' : vx_Zq Bundle.tN "SUPPRESSED_SENTINEL" Bundle.listD A s' s'.heap := by rw [hhp]; exact vx_Zq.moved hW0.alike (hN.kept hS.2.1)
  have h : ∀ w ∈ Bundle.ownAtoms own ic cls names, w.before args s' = true := vx_own hat' (vx_isRefq hU'.1) (vx_isRefq hN'.1) hU'.2.word hN'.2.word
  have hown' : s'.vm.findClass own = some m.cls := by rw [hvm]; exact hown
  have hins : (Cond.instantiable cls 6).before args s' = true := h _ (by simp [Bundle.ownAtoms])
  obtain ⟨vm₁, cX, kX, hfX, hkX, -, -, X₁, st1⟩ := Y.newCold hexec (own := own) (C := cls) (index := ik) (n := 6) hown' hk' hins hini'
    (g := F0 m pc ls rest) rfl (by rw [hb]; exact d0) (Nat.le_refl _) (Nat.le_refl _)
  generalize hT1 : (T.setVm vm₁).pushCell { cls := cX, slots := kX.instanceTypes.map defaultValue, vm := .none } = T1 at X₁ st1
  have hcat : (Value.ref T.heap.size).category = 1 := rfl
  have hcellA : T1.heap[T.heap.size]? = some (freshCell cX kX) := by rw [← hT1]; exact State.heap_pushCell_size _ _
  have d3' : decode c.code (pc + 3) = .ok (.dup, 1) := by rw [hb]; exact d3
  have d4' : decode c.code (pc + 4) = .ok (.ldc is, 2) := by rw [hb]; exact d4
  have hstr' : vk_R own is text sa s' := vk_R.warm hW0 hstr
  obtain ⟨U, hsteps, hrun, hend, hW, hsame, ce, hce, hO⟩ := X₁.ctorThrowS hexec htr (own := own) (cls := cls) (names := names) (ic := ic) hown' hcls hnames h (fun x hx => nomatch hx) hfX hkX hcellA (by rw [hhp, hT]; exact Nat.le_refl _) (msg := .ref sa) rfl
    (g := { method := m, pc := pc + 6, locals := ls, stack := .ref sa :: .ref T.heap.size :: .ref T.heap.size :: rest, locked := none }) rfl hsize rfl rfl (rest := rest) rfl
    (by rw [hb]; exact d6) (by rw [hb]; exact d9) hout hRframes (by simp only [List.map_cons, List.sum_cons, hcat]; omega) hlocks
  obtain ⟨f1, f2⟩ := vx_frame hsame
  rw [hhp] at f1 f2
  have hWs : s.WarmedH U.vm := State.WarmedH.trans hW0 hW
  have hcl : s.vm.findClass cls = some ce.cls := by
    have h9 := hO.cls
    rw [hvm] at h9
    exact h9
  have hall : s.sameButNew ({ U with vm := s.vm } : State) locs mc ms := by
    subst hA
    obtain ⟨e1, e2⟩ := hsame
    rw [State.setFrames_setFrames] at e1
    have h2 : (T.setVm s.vm).sameButNew ({ U with vm := s.vm } : State) [] (0 + 1) (0 + 6) := ⟨e1, e2⟩
    have h3 := X.same.trans h2
    rw [List.append_nil] at h3
    exact h3.mono hc hs
  refine ⟨U, ?_, .threw T.heap.size, hrun, hend, Or.inr ⟨T.heap.size, rfl, cls, ce, locs, hx U hWs.alike f1 (fun q hq => f2 q hq (fun z hz => nomatch hz)), hce, hO.vm, hcl, hWs, hall, hf⟩⟩
  refine st1 _ ?_
  show Steps p.tables e below (T1.setTop { method := m, pc := pc + 3, locals := ls, stack := .ref T.heap.size :: rest, locked := none }) _
  jvm_step X₁.here [X₁.here.top, hexec, d3', Value.category]
  exact X₁.ldcString hexec (own := own) (text := text) (index := is) (a := sa) hown' hstr'.1 hstr'.2
    (g := { method := m, pc := pc + 4, locals := ls, stack := .ref T.heap.size :: .ref T.heap.size :: rest, locked := none }) rfl d4' _ hsteps
/-- 'throw new E("text")', the text by a wide index -/
theorem vx_throwSW {cc : ByteArray} {pc : Nat} (hexec : p.tables.exec = Jvm.exec) (hb : c.code = cc) (hl : l.stackTraces = false) {own cls text : String} {names : List String} {ik is ic mc ms sa : Nat} {A : Nat → Prop}
    (hown : s.vm.findClass own = some m.cls) (hcls : Bundle.fit cls = true) (hnames : ∀ n ∈ names, Bundle.fit n = true)
    (hk : (Cond.classLink own ik cls).before args s = true) (hini : (Cond.initialized cls).before args s = true) (hstr : vk_R own is text sa s) (hat : ∀ w ∈ vx_atS own ic cls names, w.before args s = true)
    (hgood : ∀ w ∈ Cond.classLink own ik cls :: Cond.initialized cls :: vx_atS own ic cls names, vx_ot w = true)
    (hU : vx_Zq Bundle.tN "UNASSIGNED_STACK" Bundle.steD A s s.heap) (hN : vx_Zq Bundle.tN "SUPPRESSED_SENTINEL" Bundle.listD A s s.heap) (hS : va_S A s.heap H locs) (hsize : ls.size = c.maxLocals)
    (d0 : decode cc pc = .ok (.new ik, 3)) (d3 : decode cc (pc + 3) = .ok (.dup, 1)) (d4 : decode cc (pc + 4) = .ok (.ldc_w is, 3)) (d7 : decode cc (pc + 7) = .ok (.invokespecial ic, 3)) (d10 : decode cc (pc + 10) = .ok (.athrow, 1))
    (hout : ∀ x ∈ c.exceptionTable.toList, covers x (pc + 10) = false)
    (hRframes : names.length + 3 < R.frames) (hRlocals : (rest.map fun v => v.category).sum + (13 * (names.length + 1) + 43) ≤ R.locals) (hRcells : cells + 1 ≤ R.cells) (hRslots : slots + 6 ≤ R.slots) (hlocks : meth.locks = false)
    (hx : ∀ t : State, s.vm.Alike t.vm → H.size ≤ t.heap.size → (∀ q : Nat, q < H.size → t.heap[q]? = H[q]?) → XC cls s t)
    (hf : ∀ z ∈ locs, free z.base) (hc : cells + 1 ≤ mc) (hs : slots + 6 ≤ ms) :
    W p l e R s m args below meth c H locs cells slots (vx_MQ below Qc XC args s mc ms free) (F0 m pc ls rest) := by
  intro T hT X
  have htr : e.platform.stackTraces = false := (show e.platform.stackTraces = l.stackTraces by rw [X.admits.platform]).trans hl
  have Y := vx_rebase X (R' := { frames := R.frames, locals := R.locals, cells := 1, slots := 6 }) (Nat.le_refl _) (Nat.le_refl _) hRcells hRslots
  obtain ⟨s', hA⟩ : ∃ z, z = (T.setVm s.vm).setFrames (.invoking m args :: below) := ⟨_, rfl⟩
  rw [← hA] at Y
  have hvm : s'.vm = s.vm := by rw [hA]; rfl
  have hhp : s'.heap = H := by rw [hA]; exact hT
  have hW0 : s.WarmedH s'.vm := by rw [hvm]; exact State.WarmedH.refl s
  have hat' : ∀ w ∈ vx_atS own ic cls names, w.before args s' = true := fun w hw => vx_ot_at hW0 hvm.symm (hgood w (List.mem_cons_of_mem _ (List.mem_cons_of_mem _ hw))) (hat w hw)
  have hk' : (Cond.classLink own ik cls).before args s' = true := vx_ot_at hW0 hvm.symm (hgood _ List.mem_cons_self) hk
  have hini' : (Cond.initialized cls).before args s' = true := vx_ot_at hW0 hvm.symm (hgood _ (List.mem_cons_of_mem _ List.mem_cons_self)) hini
  have hU' : vx_Zq Bundle.tN "UNASSIGNED_STACK" Bundle.steD A s' s'.heap := by rw [hhp]; exact vx_Zq.moved hW0.alike (hU.kept hS.2.1)
  have hN' : vx_Zq Bundle.tN "SUPPRESSED_SENTINEL" Bundle.listD A s' s'.heap := by rw [hhp]; exact vx_Zq.moved hW0.alike (hN.kept hS.2.1)
  have h : ∀ w ∈ Bundle.ownAtoms own ic cls names, w.before args s' = true := vx_own hat' (vx_isRefq hU'.1) (vx_isRefq hN'.1) hU'.2.word hN'.2.word
  have hown' : s'.vm.findClass own = some m.cls := by rw [hvm]; exact hown
  have hins : (Cond.instantiable cls 6).before args s' = true := h _ (by simp [Bundle.ownAtoms])
  obtain ⟨vm₁, cX, kX, hfX, hkX, -, -, X₁, st1⟩ := Y.newCold hexec (own := own) (C := cls) (index := ik) (n := 6) hown' hk' hins hini'
    (g := F0 m pc ls rest) rfl (by rw [hb]; exact d0) (Nat.le_refl _) (Nat.le_refl _)
  generalize hT1 : (T.setVm vm₁).pushCell { cls := cX, slots := kX.instanceTypes.map defaultValue, vm := .none } = T1 at X₁ st1
  have hcat : (Value.ref T.heap.size).category = 1 := rfl
  have hcellA : T1.heap[T.heap.size]? = some (freshCell cX kX) := by rw [← hT1]; exact State.heap_pushCell_size _ _
  have d3' : decode c.code (pc + 3) = .ok (.dup, 1) := by rw [hb]; exact d3
  have d4' : decode c.code (pc + 4) = .ok (.ldc_w is, 3) := by rw [hb]; exact d4
  have hstr' : vk_R own is text sa s' := vk_R.warm hW0 hstr
  obtain ⟨U, hsteps, hrun, hend, hW, hsame, ce, hce, hO⟩ := X₁.ctorThrowS hexec htr (own := own) (cls := cls) (names := names) (ic := ic) hown' hcls hnames h (fun x hx => nomatch hx) hfX hkX hcellA (by rw [hhp, hT]; exact Nat.le_refl _) (msg := .ref sa) rfl
    (g := { method := m, pc := pc + 7, locals := ls, stack := .ref sa :: .ref T.heap.size :: .ref T.heap.size :: rest, locked := none }) rfl hsize rfl rfl (rest := rest) rfl
    (by rw [hb]; exact d7) (by rw [hb]; exact d10) hout hRframes (by simp only [List.map_cons, List.sum_cons, hcat]; omega) hlocks
  obtain ⟨f1, f2⟩ := vx_frame hsame
  rw [hhp] at f1 f2
  have hWs : s.WarmedH U.vm := State.WarmedH.trans hW0 hW
  have hcl : s.vm.findClass cls = some ce.cls := by
    have h9 := hO.cls
    rw [hvm] at h9
    exact h9
  have hall : s.sameButNew ({ U with vm := s.vm } : State) locs mc ms := by
    subst hA
    obtain ⟨e1, e2⟩ := hsame
    rw [State.setFrames_setFrames] at e1
    have h2 : (T.setVm s.vm).sameButNew ({ U with vm := s.vm } : State) [] (0 + 1) (0 + 6) := ⟨e1, e2⟩
    have h3 := X.same.trans h2
    rw [List.append_nil] at h3
    exact h3.mono hc hs
  refine ⟨U, ?_, .threw T.heap.size, hrun, hend, Or.inr ⟨T.heap.size, rfl, cls, ce, locs, hx U hWs.alike f1 (fun q hq => f2 q hq (fun z hz => nomatch hz)), hce, hO.vm, hcl, hWs, hall, hf⟩⟩
  refine st1 _ ?_
  show Steps p.tables e below (T1.setTop { method := m, pc := pc + 3, locals := ls, stack := .ref T.heap.size :: rest, locked := none }) _
  jvm_step X₁.here [X₁.here.top, hexec, d3', Value.category]
  exact X₁.ldcStringW hexec (own := own) (text := text) (index := is) (a := sa) hown' hstr'.1 hstr'.2
    (g := { method := m, pc := pc + 4, locals := ls, stack := .ref T.heap.size :: .ref T.heap.size :: rest, locked := none }) rfl d4' _ hsteps
end Ends
section Bodies
variable {l : Launch}
theorem vx_ofW {y : MethodName} {ws ws' : List Cond} {rm : Room} {Pc : Array Value → State → Prop} {Qc : Array Value → State → Outcome → State → Prop} {XC : String → State → State → Prop} {mc ms : Nat} {free : Addr → Prop} {cc : ByteArray} {maxL : Nat} {ret : Option FieldType}
    (hy : plainName y.cls = true) (hw : ws = Cond.code y cc maxL ret :: ws')
    (body : ∀ p e s m args below meth c s₁, BodyLoose p l y (headSpec ws rm) cc maxL ret e s m args below meth c s₁ → c.maxLocals = maxL → (∀ x ∈ c.exceptionTable.toList, False) → Pc args s →
      W p l e (headSpec ws rm).room s m args below meth c s.heap [] 0 0 (vx_MQ below Qc XC args s mc ms free) (entryFrame m args maxL)) : vx_Met l y ws rm Pc Qc XC mc ms free := by
  refine MetFree.of_bodyS (code := cc) (maxLocals := maxL) (ret := ret) hy ?_ ?_
  · intro args s m h hn
    obtain ⟨meth, c, h1, h2, h3, h4, h5, h6, -, -⟩ := Cond.code_spec hn (atoms_spec (ws := ws) h _ (by rw [hw]; exact List.mem_cons_self))
    exact ⟨meth, c, h1, h2, h3, h4, h5, h6⟩
  · intro p e s m args below meth c s₁ B hml hP _
    have hh0 : s₁.heap = s.heap := by rw [B.state]; rfl
    have ht : ∀ x ∈ c.exceptionTable.toList, False := by
      obtain ⟨meth9, c9, h1, h2, -, -, -, -, h7, -⟩ := Cond.code_spec B.named (atoms_spec (ws := ws) B.pre _ (by rw [hw]; exact List.mem_cons_self))
      cases Option.some.inj (h1.symm.trans B.method)
      cases Option.some.inj (h2.symm.trans (Stand.of_body B).code)
      intro x hx
      rw [Array.isEmpty_iff.mp h7] at hx
      cases hx
    obtain ⟨t, a1, o, b1, b2, b3⟩ := body p e s m args below meth c s₁ B hml ht hP s₁ hh0 (Stand.of_body B)
    exact ⟨t, o, a1, b1, b2, b3⟩
/-- the table of a body with handlers -/
theorem vx_table {p : Program} {x y : MethodName} {S : Spec} {cc bytes : ByteArray} {maxL maxL' : Nat} {ret ret' : Option FieldType} {e : Env} {s s₁ : State} {m : MethodId} {args : Array Value} {below : List Frame} {meth : Method} {c : Code} {hh : List (Nat × Nat × Nat × Nat)}
    (B : BodyLoose p l y S cc maxL ret e s m args below meth c s₁) (h : (Cond.codeWith y bytes maxL' ret' hh).before args s = true) : c.exceptionTable.toList = tableOf hh := by
  obtain ⟨m9, meth9, c9, hn9, h1, h2, -, -, h6, -⟩ := Cond.codeWith_spec h
  cases Option.some.inj (hn9.symm.trans B.named)
  cases Option.some.inj (h1.symm.trans B.method)
  cases Option.some.inj (h2.symm.trans (Stand.of_body B).code)
  rw [← h6, table_eq]
end Bodies
end VXA
/-! ===== END ===== -/
/-! ===== BEGIN a static call of a method with an exception table ===== -/
section VXS
variable {p : Program} {l : Launch} {e : Env} {R : Room} {s : State} {m : MethodId} {args : Array Value} {below : List Frame} {meth : Method} {c : Code} {T : State} {H : Heap} {locs : List Loc} {cells slots : Nat}
abbrev vx_CSW (R : Room) (s : State) (args : Array Value) (own : String) (index : Nat) (y : MethodName) (bytes : ByteArray) (maxL : Nat) (ret : Option FieldType) (hh : List (Nat × Nat × Nat × Nat)) (ws : List Cond) (rm : Room) (mc ms n : Nat) : Prop :=
  (rm.cells = mc ∧ rm.slots = ms ∧ rm.frames + 1 ≤ R.frames ∧ 8 + (maxL + 11) + rm.locals ≤ R.locals ∧ (∀ w ∈ ws, ∀ (a' : Array Value) (U : State), s.WarmedH U.vm → w.before a' U = true) ∧ Cond.codeWith y bytes maxL ret hh ∈ ws) ∧
  (Cond.codeWith y bytes maxL ret hh).before args s = true ∧ (Cond.initialized y.cls).before args s = true ∧ (y.cls ≠ "java/lang/invoke/MethodHandle" ∧ y.cls ≠ "java/lang/invoke/VarHandle") ∧
  (∀ sig, parseMethodDescriptor y.desc = some sig → n = sig.parameters.length) ∧ (Cond.methodLink own index y).before args s = true ∧ (Cond.static y).before args s = true
theorem vx_cwSW {own : String} {index maxL mc ms : Nat} {y : MethodName} {bytes : ByteArray} {ret : Option FieldType} {hh : List (Nat × Nat × Nat × Nat)} {Ts ws ws' : List Cond} {rm : Room} (n : Nat) (ht : ∀ w ∈ Ts, w.before args s = true) (hT : GoodIn Ts (va_wsS own index y ws)) (hw : ws = Cond.codeWith y bytes maxL ret hh :: ws') (hrc : rm.cells = mc) (hrs : rm.slots = ms)
    (hd : y.cls ≠ "java/lang/invoke/MethodHandle" ∧ y.cls ≠ "java/lang/invoke/VarHandle" ∧ (parseMethodDescriptor y.desc).map (fun d => d.parameters.length) = some n) (hR : rm.frames + 1 ≤ R.frames ∧ 8 + (maxL + 11) + rm.locals ≤ R.locals) :
    vx_CSW R s args own index y bytes maxL ret hh ws rm mc ms n := by
  have ok : ∀ w ∈ va_wsS own index y ws, w.before args s = true := fun w h => ht w (hT w h).1
  have hG : GoodIn Ts ws := fun w h => hT w (by unfold va_wsS; exact List.mem_append_right _ h)
  have hc : Cond.codeWith y bytes maxL ret hh ∈ ws := by rw [hw]; exact List.mem_cons_self
  refine ⟨⟨hrc, hrs, hR.1, hR.2, pay_in ht hG, hc⟩, ht _ (hG _ hc).1, ok _ (by simp [va_wsS]), ⟨hd.1, hd.2.1⟩, fun sig h => ?_, ok _ (by simp [va_wsS]), ok _ (by simp [va_wsS])⟩
  have h2 := hd.2.2
  rw [h] at h2
  exact (Option.some.inj h2).symm
theorem vx_callSW (X : Stand p l e R s m args below meth c T locs cells slots) (hexec : p.tables.exec = Jvm.exec) {own : String} {index : Nat} {y : MethodName} {bytes : ByteArray} {maxL : Nat} {ret : Option FieldType} {hh : List (Nat × Nat × Nat × Nat)}
    (hown : s.vm.findClass own = some m.cls) (hlink : (Cond.methodLink own index y).before args s = true) (hstat : (Cond.static y).before args s = true) (hinit : (Cond.initialized y.cls).before args s = true)
    (hcode : (Cond.codeWith y bytes maxL ret hh).before args s = true) (hy : y.cls ≠ "java/lang/invoke/MethodHandle" ∧ y.cls ≠ "java/lang/invoke/VarHandle")
    {W9 : Nat} {Pre : Pt → Array Value → Prop} {Post : Pt → Array Value → Option Value → Pt → Prop} (hK : Back l R p e below s args y 3 W9 Pre Post)
    {g : JFrame} (hg : g.method = m) (hsize : g.locals.size = c.maxLocals) {argsL rest : List Value} (hlen : ∀ sig, parseMethodDescriptor y.desc = some sig → argsL.length = sig.parameters.length)
    (hstack : g.stack = argsL.reverse ++ rest) (hW : 2 * g.monitorRoom + (rest.map fun v => v.category).sum ≤ W9) (hdg : decode c.code g.pc = .ok (.invokestatic index, 3))
    (hpre : ∀ vm₁, s.WarmedH vm₁ → Pre ⟨T.setVm vm₁, locs, cells, slots⟩ argsL.toArray) :
    ∃ (v : Option Value) (vm₁ : Vm) (B : Pt), s.WarmedH vm₁ ∧ Stand p l e R s m args below meth c B.U B.locs B.cells B.slots ∧ Post ⟨T.setVm vm₁, locs, cells, slots⟩ argsL.toArray v B ∧
      ∀ target, Steps p.tables e below (B.U.setTop { g with pc := g.pc + 3, stack := v.toList ++ rest }) target → Steps p.tables e below (T.setTop g) target := by
  obtain ⟨mk, methM, cM, hnamed, hmethM, -, -, -, -, -, -, hsigM⟩ := Cond.codeWith_spec hcode
  have hstatic : methM.isStatic = true := Cond.static_spec hnamed hmethM hstat
  obtain ⟨kP, hkP, -⟩ := className_of_methodNamed hnamed
  have hinitP : kP.init = .initialized := Cond.initialized_spec (findClass_of_methodNamed hnamed) hkP hinit
  obtain ⟨vm₁, X₁, hstep₁⟩ := X.invokestatic hexec hown hlink hnamed hmethM hstatic hkP hinitP hy (g := g) hg (argsL := argsL) (rest := rest) (hlen _ hsigM) hstack hdg
  obtain ⟨v, B, X', hpost, hsteps⟩ := hK m meth c ⟨T.setVm vm₁, locs, cells, slots⟩ { g with stack := rest } (.invokestatic index) mk argsL.toArray X₁ hg hsize hdg hW (X₁.named hnamed) (hpre vm₁ X₁.warmed)
  exact ⟨v, vm₁, B, X₁.warmed, X', hpost, fun target h => hstep₁ _ fun acts => by rw [doInvoke_state]; exact hsteps.trans h⟩
theorem vx_runSW {y : MethodName} {bytes cc : ByteArray} {maxL nL mc ms n index : Nat} {ret : Option FieldType} {hh : List (Nat × Nat × Nat × Nat)} {ws : List Cond} {rm : Room} {Pc : Array Value → State → Prop} {Qc : Array Value → State → Outcome → State → Prop} {free : Addr → Prop} {Ts : List Cond} {own : String} {As rest : List Value} {g : JFrame}
    (S : CallFix p m c cc nL s args Ts own) (hM : Met l y ws rm Pc Qc mc ms free) (cw : vx_CSW R s args own index y bytes maxL ret hh ws rm mc ms n) (hp : PreS s H Pc As)
    (hg : g.method = m) (hn : As.length = n) (hsize : g.locals.size = nL) (hstack : g.stack = As.reverse ++ rest) (hW : 2 * g.monitorRoom + (rest.map fun v => v.category).sum ≤ 8) (hdg : decode cc g.pc = .ok (.invokestatic index, 3)) (hf : cells + mc ≤ R.cells ∧ slots + ms ≤ R.slots) :
    va_Run p l e R s m args below meth c H locs cells slots mc ms g rest (Qc As.toArray) (free) := by
  obtain ⟨⟨hrc, hrs, hfr, hlo, hws, hcw⟩, hcode, hini, hy, hlen, hl, hstt⟩ := cw
  have hK : Back l R p e below s args y 3 8 (PreOf R mc ms Pc) (PostOf Qc mc ms free) := va_backW (hh := hh) (bytes := bytes) (maxL := maxL) (ret := ret) hM hp.1 hrc hrs hfr hlo hws hcw (fun a' U hW => word_at hW (Or.inl (by first | rfl | simp [Cond.onTables, Cond.keeps, Cond.steady])) hini)
  obtain ⟨hx, hb, hml, ho, -⟩ := S
  intro T hT X
  obtain ⟨v, vm₁, ⟨U', l2, c2, s2⟩, hW₁, X', ⟨g', mk, t, L, e1, e2, hq, h1, hL, h2, h3⟩, st⟩ := vx_callSW X hx (hh := hh) (bytes := bytes) (maxL := maxL) (ret := ret) ho hl hstt hini hcode hy hK hg (hsize.trans hml.symm) (argsL := As) (rest := rest) (fun sig h => hn.trans (hlen sig h)) hstack hW (by rw [hb]; exact hdg)
    (fun vm₁ hW₁ => ⟨hf.1, hf.2, hp.2 (T.setVm vm₁) hT hW₁⟩)
  dsimp only [Pt.U, Pt.locs, Pt.cells, Pt.slots] at X' e1 e2 h1 h2 h3 st
  subst h1; subst h2; subst h3
  exact ⟨v, (T.setVm vm₁).calling g' mk As.toArray, t, U', L, hT, X', hL, e1, e2, hq, st⟩
/-- not caught here, past rows that name other classes: it goes on to the caller -/
theorem vx_outP {p : Program} {l : Launch} {e : Env} {R : Room} {s : State} {m : MethodId} {args : Array Value} {below : List Frame} {meth : Method} {c : Code} {H : Heap} {locs : List Loc} {cells slots : Nat} {free : Addr → Prop} {ls : Array Slot} {rest : List Value} {Qc : Array Value → State → Outcome → State → Prop} {XC : String → State → State → Prop}
    {pc : Nat} {own E : String} {ce : Cell} {q : Addr} {mc ms : Nat} (hown : s.vm.findClass own = some m.cls) (hlocks : meth.locks = false)
    (hpass : ∀ z ∈ c.exceptionTable.toList, covers z pc = false ∨ (z.catchType ≠ 0 ∧ ∃ nm : String, (Cond.classLink own z.catchType nm).before args s = true ∧ va_Nc E nm s)) (hcell : H[q]? = some ce) (hv : ce.vm = .none) (hcl : s.vm.findClass E = some ce.cls)
    (hx : ∀ t : State, t.heap = H → s.vm.Alike t.vm → XC E s t) (hf : ∀ z ∈ locs, free z.base) (hc : cells ≤ mc) (hs : slots ≤ ms) :
    vx_W p l e R s m args below meth c H locs cells slots (vx_MQ below Qc XC args s mc ms free) (F0 m pc ls rest) q := by
  intro T hT X
  have hpl : e.platform.magicAccessors = ({} : Platform).magicAccessors := by rw [X.admits.platform]
  obtain ⟨vm', hW', X', st⟩ := X.outThrough hlocks q (g := F0 m pc ls rest) rfl rfl rfl (cell := ce) (by rw [hT]; exact hcell) (by rw [hv]; rfl)
    (by obtain ⟨k9, h9, -⟩ := Vm.findClass_spec hcl; exact ⟨k9, h9⟩) (fun z hz => by
      rcases hpass z hz with h | ⟨hz0, nm, hl1, hn1⟩
      · exact Or.inl h
      · obtain ⟨c6, hc6, hcl6⟩ := Cond.classLink_spec hown hl1 e.platform hpl
        obtain ⟨a8, b8, h1, h2, h3⟩ := hn1
        cases Option.some.inj (h1.symm.trans hcl)
        cases Option.some.inj (h2.symm.trans hc6)
        exact Or.inr ⟨hz0, _, hcl6, h3⟩)
  obtain ⟨g₀, hfr⟩ := X'.frames_eq
  have hcell9 : ((T.setVm vm').setFrames (.throwing q :: below)).heap[q]? = some ce := by
    show T.heap[q]? = some ce
    rw [hT]; exact hcell
  have hend : Ended ((T.setVm vm').setFrames (.throwing q :: below)) below (.threw q) := State.frames_setFrames _ (State.cur_lt_of_frames hfr)
  refine ⟨(T.setVm vm').setFrames (.throwing q :: below), ?_, .threw q, X'.here.running, hend, Or.inr ⟨q, rfl, E, ce, locs, hx _ hT (X'.ends _).1.alike, hcell9, hv, hcl, (X'.ends _).1, (X'.ends _).2.mono hc hs, hf⟩⟩
  rw [X.pushThrowing_eq]
  exact st
/-- a thing of a world lies in the heap -/
theorem vx_lt {D : va_G} {cl : List vw_C} {ws : va_W} {H1 : Heap} (h : va_P D cl ws H1) {k : Nat} {q : Nat × va_E} (hk : ws[k]? = some q) : q.1 < H1.size := (h k q hk).lt
end VXS
/-! ===== END ===== -/
/-! ===== BEGIN methods with a table of their own: called by a name, returning or throwing ===== -/
section VXH
/-! vx_backW, vx_callVX, vx_callSX, vx_callVW, vx_runVW, vx_runVX, vx_runSX, vx_ofWH follow the same proofs as their sisters above (Free/Laws.lean, Shelf42/LK1.lean); vx_outP calls Shelf42/NT130.lean (outThrough). -/
section
variable {l : Launch} {R : Room} {p : Program} {e : Env} {below : List Frame} {s : State} {sargs : Array Value} {y : MethodName} {len W9 : Nat}
theorem vx_backW {ws : List Cond} {rm : Room} {Pc : Array Value → State → Prop} {Qc : Array Value → State → Outcome → State → Prop} {XC : String → State → State → Prop} {mc ms : Nat} {free : Addr → Prop} {bytes : ByteArray} {maxL : Nat} {ret : Option FieldType} {hh : List (Nat × Nat × Nat × Nat)}
    (hM : vx_Met l y ws rm Pc Qc XC mc ms free) (hblind : FrameBlind Pc) (hrc : rm.cells = mc) (hrs : rm.slots = ms)
    (hframes : rm.frames + 1 ≤ R.frames) (hlocals : W9 + (maxL + 11) + rm.locals ≤ R.locals)
    (hws : ∀ w ∈ ws, ∀ a' U, s.WarmedH U.vm → w.before a' U = true) (hcode : Cond.codeWith y bytes maxL ret hh ∈ ws) (hinit : ∀ a' U, s.WarmedH U.vm → (Cond.initialized y.cls).before a' U = true) :
    vx_Back l R p e below s sargs y len W9 (PreOf R mc ms Pc) (PostOf Qc mc ms free) (vx_Post XC mc ms free) := by
  intro m meth c A g ig mk a X hg hsize hdg hW hn hp
  have h1 : (headSpec ws rm).pre.before a A.U = true := atoms_intro fun w hw => hws w hw _ _ X.warmed
  have h2 : (Cond.codeWith y bytes maxL ret hh).before a A.U = true := hws _ hcode _ _ X.warmed
  have h3 : (Cond.initialized y.cls).before a A.U = true := hinit _ _ X.warmed
  have h4 : A.cells + (headSpec ws rm).room.cells ≤ R.cells := by rw [show (headSpec ws rm).room.cells = mc from hrc]; exact hp.1
  have h5 : A.slots + (headSpec ws rm).room.slots ≤ R.slots := by rw [show (headSpec ws rm).room.slots = ms from hrs]; exact hp.2.1
  have hPc : Pc a (A.U.calling g mk a) := hblind _ _ _ _ hp.2.2
  obtain ⟨U, Ls, c0, s0⟩ := A
  dsimp only [Pt.U, Pt.locs, Pt.cells, Pt.slots] at h1 h2 h3 h4 h5 X hn hPc ⊢
  obtain ⟨m9, methY, cY, hn9, hmY, hcY, -, hlY, -⟩ := Cond.codeWith_spec h2
  cases Option.some.inj (hn9.symm.trans hn)
  obtain ⟨kY, hkY, -⟩ := className_of_methodNamed hn
  have hinitY : kY.init = .initialized := Cond.initialized_spec (findClass_of_methodNamed hn) hkY h3
  have h : At U g.method c below := by rw [hg]; exact X.here
  have hlocals9 : W9 + (maxL + 11) + (headSpec ws rm).room.locals ≤ R.locals := hlocals
  have happ : (headSpec ws rm).appliesLoose y e.platform (U.calling g mk a) = true :=
    Spec.appliesLoose_calling (g := g) h hdg hn hkY hinitY
      (X.room_calling (g := g) (R' := (headSpec ws rm).room) hsize hmY hcY hframes (by rw [hlY]; omega) h4 h5) h1
  obtain ⟨mid, hmid⟩ := h.above
  have hfr : (U.setTop g).frames = (.java g :: mid) ++ below := by rw [State.frames_setTop' g h.top, hmid]; rfl
  obtain ⟨o, s₂, hsteps, -, hend, hq⟩ := Steps.callFree hM p X.admits X.cas X.clock (acts := []) hfr happ hPc trivial
  have hq' : vx_Q Qc XC mc ms free a (U.calling g mk a) o s₂ := hq
  rw [State.frames_setTop' g h.top] at hend
  obtain ⟨g₀, hg0⟩ := Option.isSome_iff_exists.mp h.top
  obtain ⟨r, hr⟩ := State.topJava?_eq_some.mp hg0
  have hr' : (({ U with heap := s₂.heap, slotsUsed := s₂.slotsUsed } : State).setVm s₂.vm).frames = .java g₀ :: r := hr
  rcases hq' with ⟨hqc, L, hfe, hL⟩ | ⟨q, rfl, E, ce, L, hx, hce, hcv, hcl, hW₂, hsm, hL⟩
  · obtain ⟨⟨v, rfl⟩, hW₂, e2, q2, q3, q4, q5, q6⟩ := id hfe
    have e3 : s₂ = ({ (U.calling g mk a).setFrames s₂.frames with heap := s₂.heap, slotsUsed := s₂.slotsUsed } : State).setVm s₂.vm := by
      have : s₂ = ({ s₂ with vm := (U.calling g mk a).vm } : State).setVm s₂.vm := rfl
      rw [e2] at this
      exact this
    obtain ⟨c₂, i₂, len₂, hc₂, hd₂, hf₂⟩ := hend
    have hW' : U.WarmedH s₂.vm := hW₂
    have hcc : c₂ = c := by
      have h1 : s₂.code? g.method = U.code? g.method := by
        rw [State.code?_eq, State.code?_eq, hW'.alike.method?]
      exact Option.some.inj (hc₂.symm.trans (h1.trans h.code))
    subst hcc
    have hlen : len₂ = len := by rw [hdg] at hd₂; cases hd₂; rfl
    subst hlen
    have hs₂ : s₂ = (({ U with heap := s₂.heap, slotsUsed := s₂.slotsUsed } : State).setVm s₂.vm).setTop { g with pc := g.pc + len₂, stack := v.toList ++ g.stack } := by
      refine e3.trans ?_
      rw [hf₂, State.calling_eq h.top, State.setFrames_setFrames, State.setTop_of_frames _ hr', hr]
      rfl
    have hsame : U.sameButNew ({ U with heap := s₂.heap, slotsUsed := s₂.slotsUsed } : State) L mc ms := by
      refine ⟨?_, q2, q3, q4, q5, q6⟩
      obtain ⟨t, ht, -⟩ := State.frames_cons hr
      show ({ U with heap := s₂.heap, slotsUsed := s₂.slotsUsed } : State) = { U.setFrames U.frames with heap := s₂.heap, slotsUsed := s₂.slotsUsed }
      rw [State.setFrames_self ht]
    subst hg
    refine Or.inl ⟨v, ⟨(({ U with heap := s₂.heap, slotsUsed := s₂.slotsUsed } : State).setVm s₂.vm), Ls ++ L, c0 + mc, s0 + ms⟩,
      ⟨X.admits, X.cas, X.clock, X.frames, X.room, X.hears, X.method, X.code, (X.here.setHeapUsed s₂.heap s₂.slotsUsed).setVm hW'.alike, X.tail, State.WarmedH.trans X.warmed hW', X.limits, X.bytes, X.same.trans (hsame.setVm s.vm)⟩,
      ⟨g, mk, s₂, L, rfl, rfl, hqc, rfl, hL, rfl, rfl⟩, ?_⟩
    show Steps p.tables e below _ ((({ U with heap := s₂.heap, slotsUsed := s₂.slotsUsed } : State).setVm s₂.vm).setTop { g with pc := g.pc + len₂, stack := v.toList ++ g.stack })
    rw [← hs₂]
    exact hsteps
  · obtain ⟨e2, q2, q3, q4, q5, q6⟩ := id hsm
    have e3 : s₂ = ({ (U.calling g mk a).setFrames s₂.frames with heap := s₂.heap, slotsUsed := s₂.slotsUsed } : State).setVm s₂.vm := by
      have : s₂ = ({ s₂ with vm := (U.calling g mk a).vm } : State).setVm s₂.vm := rfl
      rw [e2] at this
      exact this
    have hf₂ : s₂.frames = .throwing q :: .java g :: U.frames.tail := hend
    have hW' : U.WarmedH s₂.vm := hW₂
    have hs₂ : s₂ = ((({ U with heap := s₂.heap, slotsUsed := s₂.slotsUsed } : State).setVm s₂.vm).setTop g).pushFrame (.throwing q) := by
      refine e3.trans ?_
      rw [hf₂, State.calling_eq h.top, State.setFrames_setFrames, State.pushFrame, State.frames_setTop _ hr', State.setTop_of_frames _ hr', State.setFrames_setFrames, hr]
      rfl
    have hsame : U.sameButNew ({ U with heap := s₂.heap, slotsUsed := s₂.slotsUsed } : State) L mc ms := by
      refine ⟨?_, q2, q3, q4, q5, q6⟩
      obtain ⟨t, ht, -⟩ := State.frames_cons hr
      show ({ U with heap := s₂.heap, slotsUsed := s₂.slotsUsed } : State) = { U.setFrames U.frames with heap := s₂.heap, slotsUsed := s₂.slotsUsed }
      rw [State.setFrames_self ht]
    subst hg
    refine Or.inr ⟨q, ⟨(({ U with heap := s₂.heap, slotsUsed := s₂.slotsUsed } : State).setVm s₂.vm), Ls ++ L, c0 + mc, s0 + ms⟩,
      ⟨X.admits, X.cas, X.clock, X.frames, X.room, X.hears, X.method, X.code, (X.here.setHeapUsed s₂.heap s₂.slotsUsed).setVm hW'.alike, X.tail, State.WarmedH.trans X.warmed hW', X.limits, X.bytes, X.same.trans (hsame.setVm s.vm)⟩,
      ⟨g, mk, s₂, L, E, ce, rfl, rfl, hx, hce, hcv, hcl, rfl, hL, rfl, rfl⟩, ?_⟩
    show Steps p.tables e below _ (((({ U with heap := s₂.heap, slotsUsed := s₂.slotsUsed } : State).setVm s₂.vm).setTop g).pushFrame (.throwing q))
    rw [← hs₂]
    exact hsteps
end
variable {p : Program} {l : Launch} {e : Env} {R : Room} {s : State} {m : MethodId} {args : Array Value} {below : List Frame} {meth : Method} {c : Code} {T : State} {H : Heap} {locs : List Loc} {cells slots : Nat}
theorem vx_callVX (X : Stand p l e R s m args below meth c T locs cells slots) (hexec : p.tables.exec = Jvm.exec) {own C : String} {index : Nat} {y : MethodName} {bytes : ByteArray} {maxL : Nat} {ret : Option FieldType} {hh : List (Nat × Nat × Nat × Nat)}
    (hown : s.vm.findClass own = some m.cls) (hlink : (Cond.methodLink own index y).before args s = true) (hinst : (Cond.instanceMethod y).before args s = true) (hsel : (Cond.selects C y y).before args s = true)
    (hcode : (Cond.codeWith y bytes maxL ret hh).before args s = true) (hy : y.cls ≠ "java/lang/invoke/MethodHandle" ∧ y.cls ≠ "java/lang/invoke/VarHandle")
    {W9 : Nat} {Pre : Pt → Array Value → Prop} {Post : Pt → Array Value → Option Value → Pt → Prop} {PostX : Pt → Array Value → Addr → Pt → Prop} (hK : vx_Back l R p e below s args y 3 W9 Pre Post PostX)
    {b : Addr} {cellB : Cell} (hcell : T.heap[b]? = some cellB) (hobj : cellB.vm.isStatics = false) (hcls : s.vm.findClass C = some cellB.cls)
    {g : JFrame} (hg : g.method = m) (hsize : g.locals.size = c.maxLocals) {argsL rest : List Value} (hlen : ∀ sig, parseMethodDescriptor y.desc = some sig → argsL.length = sig.parameters.length)
    (hstack : g.stack = argsL.reverse ++ .ref b :: rest) (hW : 2 * g.monitorRoom + (rest.map fun v => v.category).sum ≤ W9) (hdg : decode c.code g.pc = .ok (.invokevirtual index, 3))
    (hpre : ∀ vm₁, s.WarmedH vm₁ → Pre ⟨T.setVm vm₁, locs, cells, slots⟩ (Value.ref b :: argsL).toArray) :
    (∃ (v : Option Value) (vm₁ : Vm) (B : Pt), s.WarmedH vm₁ ∧ Stand p l e R s m args below meth c B.U B.locs B.cells B.slots ∧ Post ⟨T.setVm vm₁, locs, cells, slots⟩ (Value.ref b :: argsL).toArray v B ∧
      ∀ target, Steps p.tables e below (B.U.setTop { g with pc := g.pc + 3, stack := v.toList ++ rest }) target → Steps p.tables e below (T.setTop g) target) ∨
    (∃ (q : Addr) (vm₁ : Vm) (B : Pt), s.WarmedH vm₁ ∧ Stand p l e R s m args below meth c B.U B.locs B.cells B.slots ∧ PostX ⟨T.setVm vm₁, locs, cells, slots⟩ (Value.ref b :: argsL).toArray q B ∧
      Steps p.tables e below (T.setTop g) ((B.U.setTop { g with stack := rest }).pushFrame (.throwing q))) := by
  obtain ⟨mk, methM, hnamed, hmethM, hstM, habM⟩ := Cond.instanceMethod_spec hinst
  obtain ⟨m8, methM', cM, hn8, hmethM', -, -, -, -, -, -, hsigM⟩ := Cond.codeWith_spec hcode
  cases Option.some.inj (hn8.symm.trans hnamed)
  cases hmethM.symm.trans hmethM'
  obtain ⟨c2, r2, m2, q1, q2, q3, q4, kP, hkP, hkPi⟩ := Cond.selects_spec hsel
  cases hcls.symm.trans q1
  cases (State.methodFound?_of_named hnamed hy).symm.trans q2
  cases hnamed.symm.trans q3
  have hselP : selectMethod e.platform s.vm cellB.cls mk = .method mk := by rw [Launch.admits_selectMethod X.admits]; exact q4
  obtain ⟨vm₁, X₁, hstep₁⟩ := X.invokevirtual hexec hown hlink hnamed hmethM hstM hkP hkPi hy (a := b) (cell := cellB) hcell
    (fun z h => by rw [h] at hobj; cases hobj) hselP hmethM habM hkP hkPi (g := g) hg (argsL := argsL) (rest := rest) (hlen _ hsigM) hstack hdg
  rcases hK m meth c ⟨T.setVm vm₁, locs, cells, slots⟩ { g with stack := rest } (.invokevirtual index) mk (Value.ref b :: argsL).toArray X₁ hg hsize hdg hW (X₁.named hnamed) (hpre vm₁ X₁.warmed) with ⟨v, B, X', hpost, hsteps⟩ | ⟨q, B, X', hpost, hsteps⟩
  · exact Or.inl ⟨v, vm₁, B, X₁.warmed, X', hpost, fun target h => hstep₁ _ fun acts => by rw [doInvoke_state]; exact hsteps.trans h⟩
  · exact Or.inr ⟨q, vm₁, B, X₁.warmed, X', hpost, hstep₁ _ fun acts => by rw [doInvoke_state]; exact hsteps⟩
theorem vx_callSX (X : Stand p l e R s m args below meth c T locs cells slots) (hexec : p.tables.exec = Jvm.exec) {own : String} {index : Nat} {y : MethodName} {bytes : ByteArray} {maxL : Nat} {ret : Option FieldType} {hh : List (Nat × Nat × Nat × Nat)}
    (hown : s.vm.findClass own = some m.cls) (hlink : (Cond.methodLink own index y).before args s = true) (hstat : (Cond.static y).before args s = true) (hinit : (Cond.initialized y.cls).before args s = true)
    (hcode : (Cond.codeWith y bytes maxL ret hh).before args s = true) (hy : y.cls ≠ "java/lang/invoke/MethodHandle" ∧ y.cls ≠ "java/lang/invoke/VarHandle")
    {W9 : Nat} {Pre : Pt → Array Value → Prop} {Post : Pt → Array Value → Option Value → Pt → Prop} {PostX : Pt → Array Value → Addr → Pt → Prop} (hK : vx_Back l R p e below s args y 3 W9 Pre Post PostX)
    {g : JFrame} (hg : g.method = m) (hsize : g.locals.size = c.maxLocals) {argsL rest : List Value} (hlen : ∀ sig, parseMethodDescriptor y.desc = some sig → argsL.length = sig.parameters.length)
    (hstack : g.stack = argsL.reverse ++ rest) (hW : 2 * g.monitorRoom + (rest.map fun v => v.category).sum ≤ W9) (hdg : decode c.code g.pc = .ok (.invokestatic index, 3))
    (hpre : ∀ vm₁, s.WarmedH vm₁ → Pre ⟨T.setVm vm₁, locs, cells, slots⟩ argsL.toArray) :
    (∃ (v : Option Value) (vm₁ : Vm) (B : Pt), s.WarmedH vm₁ ∧ Stand p l e R s m args below meth c B.U B.locs B.cells B.slots ∧ Post ⟨T.setVm vm₁, locs, cells, slots⟩ argsL.toArray v B ∧
      ∀ target, Steps p.tables e below (B.U.setTop { g with pc := g.pc + 3, stack := v.toList ++ rest }) target → Steps p.tables e below (T.setTop g) target) ∨
    (∃ (q : Addr) (vm₁ : Vm) (B : Pt), s.WarmedH vm₁ ∧ Stand p l e R s m args below meth c B.U B.locs B.cells B.slots ∧ PostX ⟨T.setVm vm₁, locs, cells, slots⟩ argsL.toArray q B ∧
      Steps p.tables e below (T.setTop g) ((B.U.setTop { g with stack := rest }).pushFrame (.throwing q))) := by
  obtain ⟨mk, methM, cM, hnamed, hmethM, -, -, -, -, -, -, hsigM⟩ := Cond.codeWith_spec hcode
  have hstatic : methM.isStatic = true := Cond.static_spec hnamed hmethM hstat
  obtain ⟨kP, hkP, -⟩ := className_of_methodNamed hnamed
  have hinitP : kP.init = .initialized := Cond.initialized_spec (findClass_of_methodNamed hnamed) hkP hinit
  obtain ⟨vm₁, X₁, hstep₁⟩ := X.invokestatic hexec hown hlink hnamed hmethM hstatic hkP hinitP hy (g := g) hg (argsL := argsL) (rest := rest) (hlen _ hsigM) hstack hdg
  rcases hK m meth c ⟨T.setVm vm₁, locs, cells, slots⟩ { g with stack := rest } (.invokestatic index) mk argsL.toArray X₁ hg hsize hdg hW (X₁.named hnamed) (hpre vm₁ X₁.warmed) with ⟨v, B, X', hpost, hsteps⟩ | ⟨q, B, X', hpost, hsteps⟩
  · exact Or.inl ⟨v, vm₁, B, X₁.warmed, X', hpost, fun target h => hstep₁ _ fun acts => by rw [doInvoke_state]; exact hsteps.trans h⟩
  · exact Or.inr ⟨q, vm₁, B, X₁.warmed, X', hpost, hstep₁ _ fun acts => by rw [doInvoke_state]; exact hsteps⟩
theorem vx_callVW (X : Stand p l e R s m args below meth c T locs cells slots) (hexec : p.tables.exec = Jvm.exec) {own C : String} {index : Nat} {y : MethodName} {bytes : ByteArray} {maxL : Nat} {ret : Option FieldType} {hh : List (Nat × Nat × Nat × Nat)}
    (hown : s.vm.findClass own = some m.cls) (hlink : (Cond.methodLink own index y).before args s = true) (hinst : (Cond.instanceMethod y).before args s = true) (hsel : (Cond.selects C y y).before args s = true)
    (hcode : (Cond.codeWith y bytes maxL ret hh).before args s = true) (hy : y.cls ≠ "java/lang/invoke/MethodHandle" ∧ y.cls ≠ "java/lang/invoke/VarHandle")
    {W9 : Nat} {Pre : Pt → Array Value → Prop} {Post : Pt → Array Value → Option Value → Pt → Prop} (hK : Back l R p e below s args y 3 W9 Pre Post)
    {b : Addr} {cellB : Cell} (hcell : T.heap[b]? = some cellB) (hobj : cellB.vm.isStatics = false) (hcls : s.vm.findClass C = some cellB.cls)
    {g : JFrame} (hg : g.method = m) (hsize : g.locals.size = c.maxLocals) {argsL rest : List Value} (hlen : ∀ sig, parseMethodDescriptor y.desc = some sig → argsL.length = sig.parameters.length)
    (hstack : g.stack = argsL.reverse ++ .ref b :: rest) (hW : 2 * g.monitorRoom + (rest.map fun v => v.category).sum ≤ W9) (hdg : decode c.code g.pc = .ok (.invokevirtual index, 3))
    (hpre : ∀ vm₁, s.WarmedH vm₁ → Pre ⟨T.setVm vm₁, locs, cells, slots⟩ (Value.ref b :: argsL).toArray) :
    ∃ (v : Option Value) (vm₁ : Vm) (B : Pt), s.WarmedH vm₁ ∧ Stand p l e R s m args below meth c B.U B.locs B.cells B.slots ∧ Post ⟨T.setVm vm₁, locs, cells, slots⟩ (Value.ref b :: argsL).toArray v B ∧
      ∀ target, Steps p.tables e below (B.U.setTop { g with pc := g.pc + 3, stack := v.toList ++ rest }) target → Steps p.tables e below (T.setTop g) target := by
  obtain ⟨mk, methM, hnamed, hmethM, hstM, habM⟩ := Cond.instanceMethod_spec hinst
  obtain ⟨m8, methM', cM, hn8, hmethM', -, -, -, -, -, -, hsigM⟩ := Cond.codeWith_spec hcode
  cases Option.some.inj (hn8.symm.trans hnamed)
  cases hmethM.symm.trans hmethM'
  obtain ⟨c2, r2, m2, q1, q2, q3, q4, kP, hkP, hkPi⟩ := Cond.selects_spec hsel
  cases hcls.symm.trans q1
  cases (State.methodFound?_of_named hnamed hy).symm.trans q2
  cases hnamed.symm.trans q3
  have hselP : selectMethod e.platform s.vm cellB.cls mk = .method mk := by rw [Launch.admits_selectMethod X.admits]; exact q4
  obtain ⟨vm₁, X₁, hstep₁⟩ := X.invokevirtual hexec hown hlink hnamed hmethM hstM hkP hkPi hy (a := b) (cell := cellB) hcell
    (fun z h => by rw [h] at hobj; cases hobj) hselP hmethM habM hkP hkPi (g := g) hg (argsL := argsL) (rest := rest) (hlen _ hsigM) hstack hdg
  obtain ⟨v, B, X', hpost, hsteps⟩ := hK m meth c ⟨T.setVm vm₁, locs, cells, slots⟩ { g with stack := rest } (.invokevirtual index) mk (Value.ref b :: argsL).toArray X₁ hg hsize hdg hW (X₁.named hnamed) (hpre vm₁ X₁.warmed)
  exact ⟨v, vm₁, B, X₁.warmed, X', hpost, fun target h => hstep₁ _ fun acts => by rw [doInvoke_state]; exact hsteps.trans h⟩
abbrev vx_CVW (R : Room) (s : State) (args : Array Value) (own C : String) (index : Nat) (y : MethodName) (bytes : ByteArray) (maxL : Nat) (ret : Option FieldType) (hh : List (Nat × Nat × Nat × Nat)) (ws : List Cond) (rm : Room) (mc ms n : Nat) : Prop :=
  (rm.cells = mc ∧ rm.slots = ms ∧ rm.frames + 1 ≤ R.frames ∧ 8 + (maxL + 11) + rm.locals ≤ R.locals ∧ (∀ w ∈ ws, ∀ (a' : Array Value) (U : State), s.WarmedH U.vm → w.before a' U = true) ∧ Cond.codeWith y bytes maxL ret hh ∈ ws) ∧
  (Cond.codeWith y bytes maxL ret hh).before args s = true ∧ (Cond.initialized y.cls).before args s = true ∧ (y.cls ≠ "java/lang/invoke/MethodHandle" ∧ y.cls ≠ "java/lang/invoke/VarHandle") ∧
  (∀ sig, parseMethodDescriptor y.desc = some sig → n = sig.parameters.length) ∧ (Cond.methodLink own index y).before args s = true ∧ (Cond.instanceMethod y).before args s = true ∧ (Cond.selects C y y).before args s = true
theorem vx_cwVW {own C : String} {index maxL mc ms : Nat} {y : MethodName} {bytes : ByteArray} {ret : Option FieldType} {hh : List (Nat × Nat × Nat × Nat)} {Ts ws ws' : List Cond} {rm : Room} (n : Nat) (ht : ∀ w ∈ Ts, w.before args s = true) (hT : GoodIn Ts (wsV own index C y ws)) (hw : ws = Cond.codeWith y bytes maxL ret hh :: ws') (hrc : rm.cells = mc) (hrs : rm.slots = ms)
    (hd : y.cls = C ∧ y.cls ≠ "java/lang/invoke/MethodHandle" ∧ y.cls ≠ "java/lang/invoke/VarHandle" ∧ (parseMethodDescriptor y.desc).map (fun d => d.parameters.length) = some n) (hR : rm.frames + 1 ≤ R.frames ∧ 8 + (maxL + 11) + rm.locals ≤ R.locals) :
    vx_CVW R s args own C index y bytes maxL ret hh ws rm mc ms n := by
  obtain ⟨hC, hd⟩ := hd
  subst hC
  have ok : ∀ w ∈ wsV own index y.cls y ws, w.before args s = true := fun w h => ht w (hT w h).1
  have hG : GoodIn Ts ws := fun w h => hT w (by unfold wsV; exact List.mem_append_right _ h)
  have hc : Cond.codeWith y bytes maxL ret hh ∈ ws := by rw [hw]; exact List.mem_cons_self
  refine ⟨⟨hrc, hrs, hR.1, hR.2, pay_in ht hG, hc⟩, ht _ (hG _ hc).1, ok _ (by simp [wsV]), ⟨hd.1, hd.2.1⟩, fun sig h => ?_, ok _ (by simp [wsV]), ok _ (by simp [wsV]), ok _ (by simp [wsV])⟩
  have h2 := hd.2.2
  rw [h] at h2
  exact (Option.some.inj h2).symm
theorem vx_runVW {y : MethodName} {bytes cc : ByteArray} {maxL nL mc ms n index : Nat} {ret : Option FieldType} {hh : List (Nat × Nat × Nat × Nat)} {ws : List Cond} {rm : Room} {Pc : Array Value → State → Prop} {Qc : Array Value → State → Outcome → State → Prop} {free : Addr → Prop} {Ts : List Cond} {own C : String} {b : Addr} {As rest : List Value} {g : JFrame}
    (S : CallFix p m c cc nL s args Ts own) (hM : Met l y ws rm Pc Qc mc ms free) (cw : vx_CVW R s args own C index y bytes maxL ret hh ws rm mc ms n) (hp : PreV s H C b Pc As)
    (hg : g.method = m) (hn : As.length = n) (hsize : g.locals.size = nL) (hstack : g.stack = As.reverse ++ .ref b :: rest) (hW : 2 * g.monitorRoom + (rest.map fun v => v.category).sum ≤ 8) (hdg : decode cc g.pc = .ok (.invokevirtual index, 3)) (hf : cells + mc ≤ R.cells ∧ slots + ms ≤ R.slots) :
    va_Run p l e R s m args below meth c H locs cells slots mc ms g rest (Qc (Value.ref b :: As).toArray) free := by
  obtain ⟨⟨hrc, hrs, hfr, hlo, hws, hcw⟩, hcode, hini, hy, hlen, hl, hin, hse⟩ := cw
  have hK : Back l R p e below s args y 3 8 (PreOf R mc ms Pc) (PostOf Qc mc ms free) := va_backW (hh := hh) (bytes := bytes) (maxL := maxL) (ret := ret) hM hp.1 hrc hrs hfr hlo hws hcw (fun a' U hW => word_at hW (Or.inl (by first | rfl | simp [Cond.onTables, Cond.keeps, Cond.steady])) hini)
  obtain ⟨hx, hb, hml, ho, -⟩ := S
  obtain ⟨-, ⟨cellB, hcB, hoB, hclB⟩, hPc⟩ := hp
  intro T hT X
  obtain ⟨v, vm₁, ⟨U', l2, c2, s2⟩, hW₁, X', ⟨g', mk, t, L, e1, e2, hq, h1, hL, h2, h3⟩, st⟩ := vx_callVW X hx (C := C) (hh := hh) (bytes := bytes) (maxL := maxL) (ret := ret) ho hl hin hse hcode hy hK (by rw [hT]; exact hcB) hoB hclB hg (hsize.trans hml.symm) (argsL := As) (rest := rest) (fun sig h => hn.trans (hlen sig h)) hstack hW (by rw [hb]; exact hdg)
    (fun vm₁ hW₁ => ⟨hf.1, hf.2, hPc (T.setVm vm₁) hT hW₁⟩)
  dsimp only [Pt.U, Pt.locs, Pt.cells, Pt.slots] at X' e1 e2 h1 h2 h3 st
  subst h1; subst h2; subst h3
  exact ⟨v, (T.setVm vm₁).calling g' mk (Value.ref b :: As).toArray, t, U', L, hT, X', hL, e1, e2, hq, st⟩
section
variable {y : MethodName} {bytes cc : ByteArray} {maxL nL mc ms n index : Nat} {ret : Option FieldType} {ws : List Cond} {rm : Room} {Pc : Array Value → State → Prop} {Qc : Array Value → State → Outcome → State → Prop} {XC : String → State → State → Prop} {free : Addr → Prop} {Ts : List Cond} {own C : String} {b : Addr} {As rest : List Value} {g : JFrame}
theorem vx_runVX {hh : List (Nat × Nat × Nat × Nat)} (S : CallFix p m c cc nL s args Ts own) (hM : vx_Met l y ws rm Pc Qc XC mc ms free) (cw : vx_CVW R s args own C index y bytes maxL ret hh ws rm mc ms n) (hp : PreV s H C b Pc As)
    (hg : g.method = m) (hn : As.length = n) (hsize : g.locals.size = nL) (hstack : g.stack = As.reverse ++ .ref b :: rest) (hW : 2 * g.monitorRoom + (rest.map fun v => v.category).sum ≤ 8) (hdg : decode cc g.pc = .ok (.invokevirtual index, 3)) (hf : cells + mc ≤ R.cells ∧ slots + ms ≤ R.slots) :
    vx_Run p l e R s m args below meth c H locs cells slots mc ms g rest (Qc (Value.ref b :: As).toArray) XC free := by
  obtain ⟨⟨hrc, hrs, hfr, hlo, hws, hcw⟩, hcode, hini, hy, hlen, hl, hin, hse⟩ := cw
  have hK : vx_Back l R p e below s args y 3 8 (PreOf R mc ms Pc) (PostOf Qc mc ms free) (vx_Post XC mc ms free) := vx_backW (hh := hh) (bytes := bytes) (maxL := maxL) (ret := ret) hM hp.1 hrc hrs hfr hlo hws hcw (fun a' U hW => word_at hW (Or.inl (by first | rfl | simp [Cond.onTables, Cond.keeps, Cond.steady])) hini)
  obtain ⟨hx, hb, hml, ho, -⟩ := S
  obtain ⟨-, ⟨cellB, hcB, hoB, hclB⟩, hPc⟩ := hp
  intro T hT X
  rcases vx_callVX X hx (C := C) (hh := hh) (bytes := bytes) (maxL := maxL) (ret := ret) ho hl hin hse hcode hy hK (by rw [hT]; exact hcB) hoB hclB hg (hsize.trans hml.symm) (argsL := As) (rest := rest) (fun sig h => hn.trans (hlen sig h)) hstack hW (by rw [hb]; exact hdg)
    (fun vm₁ hW₁ => ⟨hf.1, hf.2, hPc (T.setVm vm₁) hT hW₁⟩) with ⟨v, vm₁, ⟨U', l2, c2, s2⟩, hW₁, X', ⟨g', mk, t, L, e1, e2, hq, h1, hL, h2, h3⟩, st⟩ | ⟨q, vm₁, ⟨U', l2, c2, s2⟩, hW₁, X', ⟨g', mk, t, L, E, ce, e1, e2, hq, hce, hcv, hcl, h1, hL, h2, h3⟩, st⟩
  · dsimp only [Pt.U, Pt.locs, Pt.cells, Pt.slots] at X' e1 e2 h1 h2 h3 st
    subst h1; subst h2; subst h3
    exact Or.inl ⟨v, (T.setVm vm₁).calling g' mk (Value.ref b :: As).toArray, t, U', L, hT, X', hL, e1, e2, hq, st⟩
  · dsimp only [Pt.U, Pt.locs, Pt.cells, Pt.slots] at X' e1 e2 h1 h2 h3 st hcl
    subst h1; subst h2; subst h3
    exact Or.inr ⟨q, (T.setVm vm₁).calling g' mk (Value.ref b :: As).toArray, t, U', L, E, ce, hT, X', hL, e1, e2, hq, hce, hcv, vx_cls hW₁ hcl, st⟩
theorem vx_runSX {hh : List (Nat × Nat × Nat × Nat)} (S : CallFix p m c cc nL s args Ts own) (hM : vx_Met l y ws rm Pc Qc XC mc ms free) (cw : vx_CSW R s args own index y bytes maxL ret hh ws rm mc ms n) (hp : PreS s H Pc As)
    (hg : g.method = m) (hn : As.length = n) (hsize : g.locals.size = nL) (hstack : g.stack = As.reverse ++ rest) (hW : 2 * g.monitorRoom + (rest.map fun v => v.category).sum ≤ 8) (hdg : decode cc g.pc = .ok (.invokestatic index, 3)) (hf : cells + mc ≤ R.cells ∧ slots + ms ≤ R.slots) :
    vx_Run p l e R s m args below meth c H locs cells slots mc ms g rest (Qc As.toArray) XC free := by
  obtain ⟨⟨hrc, hrs, hfr, hlo, hws, hcw⟩, hcode, hini, hy, hlen, hl, hstt⟩ := cw
  have hK : vx_Back l R p e below s args y 3 8 (PreOf R mc ms Pc) (PostOf Qc mc ms free) (vx_Post XC mc ms free) := vx_backW (hh := hh) (bytes := bytes) (maxL := maxL) (ret := ret) hM hp.1 hrc hrs hfr hlo hws hcw (fun a' U hW => word_at hW (Or.inl (by first | rfl | simp [Cond.onTables, Cond.keeps, Cond.steady])) hini)
  obtain ⟨hx, hb, hml, ho, -⟩ := S
  intro T hT X
  rcases vx_callSX X hx (hh := hh) (bytes := bytes) (maxL := maxL) (ret := ret) ho hl hstt hini hcode hy hK hg (hsize.trans hml.symm) (argsL := As) (rest := rest) (fun sig h => hn.trans (hlen sig h)) hstack hW (by rw [hb]; exact hdg)
    (fun vm₁ hW₁ => ⟨hf.1, hf.2, hp.2 (T.setVm vm₁) hT hW₁⟩) with ⟨v, vm₁, ⟨U', l2, c2, s2⟩, hW₁, X', ⟨g', mk, t, L, e1, e2, hq, h1, hL, h2, h3⟩, st⟩ | ⟨q, vm₁, ⟨U', l2, c2, s2⟩, hW₁, X', ⟨g', mk, t, L, E, ce, e1, e2, hq, hce, hcv, hcl, h1, hL, h2, h3⟩, st⟩
  · dsimp only [Pt.U, Pt.locs, Pt.cells, Pt.slots] at X' e1 e2 h1 h2 h3 st
    subst h1; subst h2; subst h3
    exact Or.inl ⟨v, (T.setVm vm₁).calling g' mk As.toArray, t, U', L, hT, X', hL, e1, e2, hq, st⟩
  · dsimp only [Pt.U, Pt.locs, Pt.cells, Pt.slots] at X' e1 e2 h1 h2 h3 st hcl
    subst h1; subst h2; subst h3
    exact Or.inr ⟨q, (T.setVm vm₁).calling g' mk As.toArray, t, U', L, E, ce, hT, X', hL, e1, e2, hq, hce, hcv, vx_cls hW₁ hcl, st⟩
end
end VXH
theorem vx_ofWH {l : Launch} {y : MethodName} {ws ws' : List Cond} {rm : Room} {Pc : Array Value → State → Prop} {Qc : Array Value → State → Outcome → State → Prop} {XC : String → State → State → Prop} {mc ms : Nat} {free : Addr → Prop} {cc : ByteArray} {maxL : Nat} {ret : Option FieldType} {hh : List (Nat × Nat × Nat × Nat)}
    (hy : plainName y.cls = true) (hw : ws = Cond.codeWith y cc maxL ret hh :: ws')
    (body : ∀ p e s m args below meth c s₁, BodyLoose p l y (headSpec ws rm) cc maxL ret e s m args below meth c s₁ → c.maxLocals = maxL → Pc args s →
      W p l e (headSpec ws rm).room s m args below meth c s.heap [] 0 0 (vx_MQ below Qc XC args s mc ms free) (entryFrame m args maxL)) : vx_Met l y ws rm Pc Qc XC mc ms free := by
  refine MetFree.of_bodyS (code := cc) (maxLocals := maxL) (ret := ret) hy ?_ ?_
  · intro args s m h hn
    obtain ⟨m9, meth, c, hn9, h1, h2, h3, h4, -, h5, h6, -⟩ := Cond.codeWith_spec (atoms_spec (ws := ws) h _ (by rw [hw]; exact List.mem_cons_self))
    cases hn.symm.trans hn9
    exact ⟨meth, c, h1, h2, h3, h4, h5, h6⟩
  · intro p e s m args below meth c s₁ B hml hP _
    have hh0 : s₁.heap = s.heap := by rw [B.state]; rfl
    obtain ⟨t, a1, o, b1, b2, b3⟩ := body p e s m args below meth c s₁ B hml hP s₁ hh0 (Stand.of_body B)
    exact ⟨t, o, a1, b1, b2, b3⟩
/-! ===== END ===== -/
end
section
def RX0 : String := "SoundKernel$Client"
def TX0 : u_T := fun k => match k with
  | _ => ("", "", "", false)
def tyX0 : Nat → FieldType := fun k => match k with
  | _ => .int
theorem nmX0 : ∀ a, a < 0 → ∀ b, b < 0 → a ≠ b → (TX0 a).2.1 ≠ (TX0 b).2.1 := by decide +kernel
theorem tyX0_ok : ∀ k, k < 0 → parseFieldDescriptor (TX0 k).2.2.1 = some (tyX0 k) := by decide +kernel
abbrev cX0_init : ByteArray := prog_2_method_1_code
def yX0_init : MethodName := ⟨RX0, "<init>", "(II)V"⟩
abbrev cX0_numbersOf : ByteArray := prog_2_method_4_code
def yX0_numbersOf : MethodName := ⟨RX0, "numbersOf", "(J)I"⟩
abbrev cX0_isNumber : ByteArray := prog_2_method_5_code
def yX0_isNumber : MethodName := ⟨RX0, "isNumber", "(I)Z"⟩
abbrev cX0_sampleOf : ByteArray := prog_2_method_6_code
def yX0_sampleOf : MethodName := ⟨RX0, "sampleOf", "(I)I"⟩
abbrev cX0_numberOf : ByteArray := prog_2_method_7_code
def yX0_numberOf : MethodName := ⟨RX0, "numberOf", "(I)I"⟩
def RX1 : String := "SoundKernel$Converter"
def TX1 : u_T := fun k => match k with
  | 0 => ("SoundKernel$Converter", "taps", "LSoundKernel$Taps;", true)
  | 1 => ("SoundKernel$Converter", "from", "J", true)
  | _ => ("SoundKernel$Converter", "to", "J", true)
def tyX1 : Nat → FieldType := fun k => match k with
  | 0 => .object "SoundKernel$Taps"
  | 1 => .long
  | _ => .long
theorem nmX1 : ∀ a, a < 3 → ∀ b, b < 3 → a ≠ b → (TX1 a).2.1 ≠ (TX1 b).2.1 := by decide +kernel
theorem tyX1_ok : ∀ k, k < 3 → parseFieldDescriptor (TX1 k).2.2.1 = some (tyX1 k) := by decide +kernel
abbrev cX1_init : ByteArray := prog_3_method_1_code
def yX1_init : MethodName := ⟨RX1, "<init>", "(LSoundKernel$Taps;II)V"⟩
abbrev cX1_isPlain : ByteArray := prog_3_method_2_code
def yX1_isPlain : MethodName := ⟨RX1, "isPlain", "()Z"⟩
abbrev cX1_wholePlace : ByteArray := prog_3_method_3_code
def yX1_wholePlace : MethodName := ⟨RX1, "wholePlace", "(J)J"⟩
abbrev cX1_lastNeeded : ByteArray := prog_3_method_4_code
def yX1_lastNeeded : MethodName := ⟨RX1, "lastNeeded", "(J)J"⟩
abbrev cX1_sample : ByteArray := prog_3_method_5_code
def yX1_sample : MethodName := ⟨RX1, "sample", "(LSoundKernel$Frames;JZ)I"⟩
def RX2 : String := "SoundKernel$Frames"
def TX2 : u_T := fun k => match k with
  | 0 => ("SoundKernel$Frames", "lefts", "[I", true)
  | 1 => ("SoundKernel$Frames", "rights", "[I", true)
  | _ => ("SoundKernel$Frames", "count", "J", false)
def tyX2 : Nat → FieldType := fun k => match k with
  | 0 => .array .int
  | 1 => .array .int
  | _ => .long
theorem nmX2 : ∀ a, a < 3 → ∀ b, b < 3 → a ≠ b → (TX2 a).2.1 ≠ (TX2 b).2.1 := by decide +kernel
theorem tyX2_ok : ∀ k, k < 3 → parseFieldDescriptor (TX2 k).2.2.1 = some (tyX2 k) := by decide +kernel
abbrev cX2_init : ByteArray := prog_4_method_1_code
def yX2_init : MethodName := ⟨RX2, "<init>", "()V"⟩
abbrev cX2_add : ByteArray := prog_4_method_2_code
def yX2_add : MethodName := ⟨RX2, "add", "(II)V"⟩
abbrev cX2_sample : ByteArray := prog_4_method_3_code
def yX2_sample : MethodName := ⟨RX2, "sample", "(JZ)I"⟩
def RX3 : String := "SoundKernel$Limiter"
def TX3 : u_T := fun k => match k with
  | 0 => ("SoundKernel$Limiter", "on", "Z", false)
  | 1 => ("SoundKernel$Limiter", "factor", "I", false)
  | 2 => ("SoundKernel$Limiter", "cuts", "I", false)
  | _ => ("SoundKernel$Limiter", "frames", "J", false)
def tyX3 : Nat → FieldType := fun k => match k with
  | 0 => .boolean
  | 1 => .int
  | 2 => .int
  | _ => .long
theorem nmX3 : ∀ a, a < 4 → ∀ b, b < 4 → a ≠ b → (TX3 a).2.1 ≠ (TX3 b).2.1 := by decide +kernel
theorem tyX3_ok : ∀ k, k < 4 → parseFieldDescriptor (TX3 k).2.2.1 = some (tyX3 k) := by decide +kernel
abbrev cX3_init : ByteArray := prog_5_method_1_code
def yX3_init : MethodName := ⟨RX3, "<init>", "()V"⟩
abbrev cX3_make : ByteArray := prog_5_method_2_code
def yX3_make : MethodName := ⟨RX3, "make", "([I[I)V"⟩
abbrev cX3_recover : ByteArray := prog_5_method_3_code
def yX3_recover : MethodName := ⟨RX3, "recover", "()V"⟩
abbrev cX3_yieldTo : ByteArray := prog_5_method_4_code
def yX3_yieldTo : MethodName := ⟨RX3, "yieldTo", "(I)V"⟩
abbrev cX3_limited : ByteArray := prog_5_method_5_code
def yX3_limited : MethodName := ⟨RX3, "limited", "(I)I"⟩
abbrev cX3_cut : ByteArray := prog_5_method_6_code
def yX3_cut : MethodName := ⟨RX3, "cut", "(I)I"⟩
def RX4 : String := "SoundKernel$Listener"
def TX4 : u_T := fun k => match k with
  | 0 => ("SoundKernel$Client", "channels", "I", true)
  | 1 => ("SoundKernel$Client", "bits", "I", true)
  | 2 => ("SoundKernel$Client", "condition", "I", false)
  | 3 => ("SoundKernel$Client", "timesLate", "I", false)
  | 4 => ("SoundKernel$Client", "half", "Z", false)
  | 5 => ("SoundKernel$Listener", "converter", "LSoundKernel$Converter;", true)
  | 6 => ("SoundKernel$Listener", "captured", "LSoundKernel$Frames;", true)
  | 7 => ("SoundKernel$Listener", "unlocked", "LSoundKernel$Frames;", true)
  | 8 => ("SoundKernel$Listener", "next", "J", false)
  | _ => ("SoundKernel$Listener", "wholly", "J", false)
def tyX4 : Nat → FieldType := fun k => match k with
  | 0 => .int
  | 1 => .int
  | 2 => .int
  | 3 => .int
  | 4 => .boolean
  | 5 => .object "SoundKernel$Converter"
  | 6 => .object "SoundKernel$Frames"
  | 7 => .object "SoundKernel$Frames"
  | 8 => .long
  | _ => .long
theorem nmX4 : ∀ a, a < 10 → ∀ b, b < 10 → a ≠ b → (TX4 a).2.1 ≠ (TX4 b).2.1 := by decide +kernel
theorem tyX4_ok : ∀ k, k < 10 → parseFieldDescriptor (TX4 k).2.2.1 = some (tyX4 k) := by decide +kernel
abbrev cX4_init : ByteArray := prog_6_method_1_code
def yX4_init : MethodName := ⟨RX4, "<init>", "(LSoundKernel$Taps;III)V"⟩
abbrev cX4_numbersNow : ByteArray := prog_6_method_2_code
def yX4_numbersNow : MethodName := ⟨RX4, "numbersNow", "()I"⟩
abbrev cX4_place : ByteArray := prog_6_method_3_code
def yX4_place : MethodName := ⟨RX4, "place", "()J"⟩
abbrev cX4_capture : ByteArray := prog_6_method_4_code
def yX4_capture : MethodName := ⟨RX4, "capture", "([I)V"⟩
abbrev cX4_nextNumber : ByteArray := prog_6_method_5_code
def yX4_nextNumber : MethodName := ⟨RX4, "nextNumber", "()I"⟩
abbrev cX4_freshFrames : ByteArray := prog_6_method_6_code
def yX4_freshFrames : MethodName := ⟨RX4, "freshFrames", "()I"⟩
abbrev cX4_unlock : ByteArray := prog_6_method_7_code
def yX4_unlock : MethodName := ⟨RX4, "unlock", "(I)V"⟩
def RX5 : String := "SoundKernel$Player"
def TX5 : u_T := fun k => match k with
  | 0 => ("SoundKernel$Client", "channels", "I", true)
  | 1 => ("SoundKernel$Client", "bits", "I", true)
  | 2 => ("SoundKernel$Client", "condition", "I", false)
  | 3 => ("SoundKernel$Client", "timesLate", "I", false)
  | 4 => ("SoundKernel$Client", "half", "Z", false)
  | 5 => ("SoundKernel$Player", "outputs", "LSoundKernel$Converter;", true)
  | 6 => ("SoundKernel$Player", "written", "LSoundKernel$Frames;", true)
  | 7 => ("SoundKernel$Player", "outputsIn", "[I", true)
  | 8 => ("SoundKernel$Player", "loudness", "I", false)
  | 9 => ("SoundKernel$Player", "heldLeft", "I", false)
  | 10 => ("SoundKernel$Player", "lastLeft", "I", false)
  | 11 => ("SoundKernel$Player", "lastRight", "I", false)
  | 12 => ("SoundKernel$Player", "next", "J", false)
  | 13 => ("SoundKernel$Player", "heard", "J", false)
  | _ => ("SoundKernel$Player", "squares", "J", false)
def tyX5 : Nat → FieldType := fun k => match k with
  | 0 => .int
  | 1 => .int
  | 2 => .int
  | 3 => .int
  | 4 => .boolean
  | 5 => .object "SoundKernel$Converter"
  | 6 => .object "SoundKernel$Frames"
  | 7 => .array .int
  | 8 => .int
  | 9 => .int
  | 10 => .int
  | 11 => .int
  | 12 => .long
  | 13 => .long
  | _ => .long
theorem nmX5 : ∀ a, a < 15 → ∀ b, b < 15 → a ≠ b → (TX5 a).2.1 ≠ (TX5 b).2.1 := by decide +kernel
theorem tyX5_ok : ∀ k, k < 15 → parseFieldDescriptor (TX5 k).2.2.1 = some (tyX5 k) := by decide +kernel
abbrev cX5_init : ByteArray := prog_7_method_1_code
def yX5_init : MethodName := ⟨RX5, "<init>", "(LSoundKernel$Taps;III)V"⟩
abbrev cX5_isEnding : ByteArray := prog_7_method_2_code
def yX5_isEnding : MethodName := ⟨RX5, "isEnding", "()Z"⟩
abbrev cX5_numbersNow : ByteArray := prog_7_method_3_code
def yX5_numbersNow : MethodName := ⟨RX5, "numbersNow", "()I"⟩
abbrev cX5_place : ByteArray := prog_7_method_4_code
def yX5_place : MethodName := ⟨RX5, "place", "()J"⟩
abbrev cX5_accept : ByteArray := prog_7_method_5_code
def yX5_accept : MethodName := ⟨RX5, "accept", "(I)Z"⟩
abbrev cX5_periodsWritten : ByteArray := prog_7_method_6_code
def yX5_periodsWritten : MethodName := ⟨RX5, "periodsWritten", "()I"⟩
abbrev cX5_give : ByteArray := prog_7_method_7_code
def yX5_give : MethodName := ⟨RX5, "give", "([II)V"⟩
abbrev cX5_addLoud : ByteArray := prog_7_method_8_code
def yX5_addLoud : MethodName := ⟨RX5, "addLoud", "([I[I)V"⟩
abbrev cX5_markHeard : ByteArray := prog_7_method_9_code
def yX5_markHeard : MethodName := ⟨RX5, "markHeard", "(I)V"⟩
abbrev cX5_freeFrames : ByteArray := prog_7_method_10_code
def yX5_freeFrames : MethodName := ⟨RX5, "freeFrames", "()J"⟩
abbrev cX5_isWrittenFor : ByteArray := prog_7_method_11_code
def yX5_isWrittenFor : MethodName := ⟨RX5, "isWrittenFor", "(I)Z"⟩
abbrev cX5_isPastAllWritten : ByteArray := prog_7_method_12_code
def yX5_isPastAllWritten : MethodName := ⟨RX5, "isPastAllWritten", "()Z"⟩
abbrev cX5_giveOutputs : ByteArray := prog_7_method_13_code
def yX5_giveOutputs : MethodName := ⟨RX5, "giveOutputs", "([I)V"⟩
abbrev cX5_giveFade : ByteArray := prog_7_method_14_code
def yX5_giveFade : MethodName := ⟨RX5, "giveFade", "([I)V"⟩
abbrev cX5_sumOfSquares : ByteArray := prog_7_method_15_code
def yX5_sumOfSquares : MethodName := ⟨RX5, "sumOfSquares", "([I)J"⟩
def RX6 : String := "SoundKernel$Taps"
def TX6 : u_T := fun k => match k with
  | _ => ("SoundKernel$Taps", "row", "[I", true)
def tyX6 : Nat → FieldType := fun k => match k with
  | _ => .array .int
theorem nmX6 : ∀ a, a < 1 → ∀ b, b < 1 → a ≠ b → (TX6 a).2.1 ≠ (TX6 b).2.1 := by decide +kernel
theorem tyX6_ok : ∀ k, k < 1 → parseFieldDescriptor (TX6 k).2.2.1 = some (tyX6 k) := by decide +kernel
abbrev cX6_init : ByteArray := prog_8_method_1_code
def yX6_init : MethodName := ⟨RX6, "<init>", "()V"⟩
abbrev cX6_of : ByteArray := prog_8_method_2_code
def yX6_of : MethodName := ⟨RX6, "of", "(II)I"⟩
abbrev cX6_weightsOf : ByteArray := prog_8_method_3_code
def yX6_weightsOf : MethodName := ⟨RX6, "weightsOf", "(I)I"⟩
abbrev cX6_weight : ByteArray := prog_8_method_4_code
def yX6_weight : MethodName := ⟨RX6, "weight", "(II)I"⟩
def RX7 : String := "SoundKernel"
def TX7 : u_T := fun k => match k with
  | 0 => ("SoundKernel", "taps", "LSoundKernel$Taps;", true)
  | 1 => ("SoundKernel", "limiter", "LSoundKernel$Limiter;", true)
  | 2 => ("SoundKernel", "clients", "[LSoundKernel$Client;", true)
  | 3 => ("SoundKernel", "ready", "[[I", true)
  | 4 => ("SoundKernel", "oldestReady", "I", false)
  | 5 => ("SoundKernel", "readyPeriods", "I", false)
  | 6 => ("SoundKernel", "past", "[[I", true)
  | 7 => ("SoundKernel", "newestPast", "I", false)
  | 8 => ("SoundKernel", "incoming", "[I", true)
  | 9 => ("SoundKernel", "given", "[I", true)
  | _ => ("SoundKernel", "sums", "[I", true)
def tyX7 : Nat → FieldType := fun k => match k with
  | 0 => .object "SoundKernel$Taps"
  | 1 => .object "SoundKernel$Limiter"
  | 2 => .array (.object "SoundKernel$Client")
  | 3 => .array (.array .int)
  | 4 => .int
  | 5 => .int
  | 6 => .array (.array .int)
  | 7 => .int
  | 8 => .array .int
  | 9 => .array .int
  | _ => .array .int
theorem nmX7 : ∀ a, a < 11 → ∀ b, b < 11 → a ≠ b → (TX7 a).2.1 ≠ (TX7 b).2.1 := by decide +kernel
theorem tyX7_ok : ∀ k, k < 11 → parseFieldDescriptor (TX7 k).2.2.1 = some (tyX7 k) := by decide +kernel
abbrev cX7_init : ByteArray := prog_1_method_1_code
def yX7_init : MethodName := ⟨RX7, "<init>", "()V"⟩
abbrev cX7_open : ByteArray := prog_1_method_2_code
def yX7_open : MethodName := ⟨RX7, "open", "(ZIII)I"⟩
abbrev cX7_close : ByteArray := prog_1_method_3_code
def yX7_close : MethodName := ⟨RX7, "close", "(I)V"⟩
abbrev cX7_gain : ByteArray := prog_1_method_4_code
def yX7_gain : MethodName := ⟨RX7, "gain", "(ID)V"⟩
abbrev cX7_start : ByteArray := prog_1_method_5_code
def yX7_start : MethodName := ⟨RX7, "start", "(I)V"⟩
abbrev cX7_pause : ByteArray := prog_1_method_6_code
def yX7_pause : MethodName := ⟨RX7, "pause", "(I)V"⟩
abbrev cX7_drain : ByteArray := prog_1_method_7_code
def yX7_drain : MethodName := ⟨RX7, "drain", "(I)V"⟩
abbrev cX7_state : ByteArray := prog_1_method_8_code
def yX7_state : MethodName := ⟨RX7, "state", "(I)I"⟩
abbrev cX7_write : ByteArray := prog_1_method_9_code
def yX7_write : MethodName := ⟨RX7, "write", "(II)Z"⟩
abbrev cX7_read : ByteArray := prog_1_method_10_code
def yX7_read : MethodName := ⟨RX7, "read", "(I)I"⟩
abbrev cX7_room : ByteArray := prog_1_method_11_code
def yX7_room : MethodName := ⟨RX7, "room", "(I)I"⟩
abbrev cX7_ahead : ByteArray := prog_1_method_12_code
def yX7_ahead : MethodName := ⟨RX7, "ahead", "(I)I"⟩
abbrev cX7_prepare : ByteArray := prog_1_method_13_code
def yX7_prepare : MethodName := ⟨RX7, "prepare", "()Z"⟩
abbrev cX7_card : ByteArray := prog_1_method_14_code
def yX7_card : MethodName := ⟨RX7, "card", "()Z"⟩
abbrev cX7_coming : ByteArray := prog_1_method_15_code
def yX7_coming : MethodName := ⟨RX7, "coming", "(IZI)V"⟩
abbrev cX7_played : ByteArray := prog_1_method_16_code
def yX7_played : MethodName := ⟨RX7, "played", "(IIZ)I"⟩
abbrev cX7_position : ByteArray := prog_1_method_17_code
def yX7_position : MethodName := ⟨RX7, "position", "(I)I"⟩
abbrev cX7_late : ByteArray := prog_1_method_18_code
def yX7_late : MethodName := ⟨RX7, "late", "(I)I"⟩
abbrev cX7_level : ByteArray := prog_1_method_19_code
def yX7_level : MethodName := ⟨RX7, "level", "(I)D"⟩
abbrev cX7_clipped : ByteArray := prog_1_method_20_code
def yX7_clipped : MethodName := ⟨RX7, "clipped", "()I"⟩
abbrev cX7_limit : ByteArray := prog_1_method_21_code
def yX7_limit : MethodName := ⟨RX7, "limit", "(Z)Z"⟩
abbrev cX7_value : ByteArray := prog_1_method_22_code
def yX7_value : MethodName := ⟨RX7, "value", "()I"⟩
abbrev cX7_tap : ByteArray := prog_1_method_23_code
def yX7_tap : MethodName := ⟨RX7, "tap", "(II)I"⟩
abbrev cX7_requireClient : ByteArray := prog_1_method_24_code
def yX7_requireClient : MethodName := ⟨RX7, "requireClient", "(I)LSoundKernel$Client;"⟩
abbrev cX7_requirePlayer : ByteArray := prog_1_method_25_code
def yX7_requirePlayer : MethodName := ⟨RX7, "requirePlayer", "(I)LSoundKernel$Player;"⟩
abbrev cX7_requireListener : ByteArray := prog_1_method_26_code
def yX7_requireListener : MethodName := ⟨RX7, "requireListener", "(I)LSoundKernel$Listener;"⟩
abbrev cX7_requireRunning : ByteArray := prog_1_method_27_code
def yX7_requireRunning : MethodName := ⟨RX7, "requireRunning", "(LSoundKernel$Client;)V"⟩
abbrev cX7_leastFree : ByteArray := prog_1_method_28_code
def yX7_leastFree : MethodName := ⟨RX7, "leastFree", "()I"⟩
abbrev cX7_playOldest : ByteArray := prog_1_method_29_code
def yX7_playOldest : MethodName := ⟨RX7, "playOldest", "()V"⟩
abbrev cX7_captureIncoming : ByteArray := prog_1_method_30_code
def yX7_captureIncoming : MethodName := ⟨RX7, "captureIncoming", "()V"⟩
abbrev cX7_isRate : ByteArray := prog_1_method_31_code
def yX7_isRate : MethodName := ⟨RX7, "isRate", "(I)Z"⟩
abbrev cX7_isFrame : ByteArray := prog_1_method_32_code
def yX7_isFrame : MethodName := ⟨RX7, "isFrame", "(I)Z"⟩
abbrev cX7_isSample : ByteArray := prog_1_method_33_code
def yX7_isSample : MethodName := ⟨RX7, "isSample", "(I)Z"⟩
abbrev cX7_sampleIndex : ByteArray := prog_1_method_34_code
def yX7_sampleIndex : MethodName := ⟨RX7, "sampleIndex", "(IZ)I"⟩
abbrev cX7_slotOf : ByteArray := prog_1_method_35_code
def yX7_slotOf : MethodName := ⟨RX7, "slotOf", "(I)I"⟩
def RX8 : String := "SoundKernelModel"
def TX8 : u_T := fun k => match k with
  | 0 => ("SoundKernelModel", "fault", "I", false)
  | 1 => ("SoundKernelModel", "taps", "[I", true)
  | 2 => ("SoundKernelModel", "isThere", "[Z", true)
  | 3 => ("SoundKernelModel", "plays", "[Z", true)
  | 4 => ("SoundKernelModel", "rate", "[I", true)
  | 5 => ("SoundKernelModel", "channels", "[I", true)
  | 6 => ("SoundKernelModel", "bits", "[I", true)
  | 7 => ("SoundKernelModel", "gain", "[I", true)
  | 8 => ("SoundKernelModel", "states", "[I", true)
  | 9 => ("SoundKernelModel", "late", "[I", true)
  | 10 => ("SoundKernelModel", "have", "[I", true)
  | 11 => ("SoundKernelModel", "left", "[I", true)
  | 12 => ("SoundKernelModel", "right", "[I", true)
  | 13 => ("SoundKernelModel", "isHalf", "[Z", true)
  | 14 => ("SoundKernelModel", "half", "[I", true)
  | 15 => ("SoundKernelModel", "next", "[I", true)
  | 16 => ("SoundKernelModel", "lastLeft", "[I", true)
  | 17 => ("SoundKernelModel", "lastRight", "[I", true)
  | 18 => ("SoundKernelModel", "out", "[I", true)
  | 19 => ("SoundKernelModel", "levels", "[D", true)
  | 20 => ("SoundKernelModel", "reckoned", "[I", true)
  | 21 => ("SoundKernelModel", "ready", "[I", true)
  | 22 => ("SoundKernelModel", "readyAt", "[I", true)
  | 23 => ("SoundKernelModel", "readWholly", "[I", true)
  | 24 => ("SoundKernelModel", "readyPeriods", "I", false)
  | 25 => ("SoundKernelModel", "readyLeft", "[I", true)
  | 26 => ("SoundKernelModel", "readyRight", "[I", true)
  | 27 => ("SoundKernelModel", "readyOut", "[I", true)
  | 28 => ("SoundKernelModel", "playedLeft", "[I", true)
  | 29 => ("SoundKernelModel", "playedRight", "[I", true)
  | 30 => ("SoundKernelModel", "comingLeft", "[I", true)
  | 31 => ("SoundKernelModel", "comingRight", "[I", true)
  | 32 => ("SoundKernelModel", "limits", "Z", false)
  | 33 => ("SoundKernelModel", "value", "I", false)
  | 34 => ("SoundKernelModel", "made", "I", false)
  | 35 => ("SoundKernelModel", "clipped", "I", false)
  | 36 => ("SoundKernelModel", "sumLeft", "[I", true)
  | 37 => ("SoundKernelModel", "sumRight", "[I", true)
  | 38 => ("SoundKernelModel", "givesLeft", "[I", true)
  | _ => ("SoundKernelModel", "givesRight", "[I", true)
def tyX8 : Nat → FieldType := fun k => match k with
  | 0 => .int
  | 1 => .array .int
  | 2 => .array .boolean
  | 3 => .array .boolean
  | 4 => .array .int
  | 5 => .array .int
  | 6 => .array .int
  | 7 => .array .int
  | 8 => .array .int
  | 9 => .array .int
  | 10 => .array .int
  | 11 => .array .int
  | 12 => .array .int
  | 13 => .array .boolean
  | 14 => .array .int
  | 15 => .array .int
  | 16 => .array .int
  | 17 => .array .int
  | 18 => .array .int
  | 19 => .array .double
  | 20 => .array .int
  | 21 => .array .int
  | 22 => .array .int
  | 23 => .array .int
  | 24 => .int
  | 25 => .array .int
  | 26 => .array .int
  | 27 => .array .int
  | 28 => .array .int
  | 29 => .array .int
  | 30 => .array .int
  | 31 => .array .int
  | 32 => .boolean
  | 33 => .int
  | 34 => .int
  | 35 => .int
  | 36 => .array .int
  | 37 => .array .int
  | 38 => .array .int
  | _ => .array .int
theorem nmX8 : ∀ a, a < 40 → ∀ b, b < 40 → a ≠ b → (TX8 a).2.1 ≠ (TX8 b).2.1 := by decide +kernel
theorem tyX8_ok : ∀ k, k < 40 → parseFieldDescriptor (TX8 k).2.2.1 = some (tyX8 k) := by decide +kernel
abbrev cX8_init : ByteArray := prog_10_method_1_code
def yX8_init : MethodName := ⟨RX8, "<init>", "()V"⟩
abbrev cX8_weight : ByteArray := prog_10_method_2_code
def yX8_weight : MethodName := ⟨RX8, "weight", "(II)I"⟩
abbrev cX8_thrown : ByteArray := prog_10_method_3_code
def yX8_thrown : MethodName := ⟨RX8, "thrown", "()I"⟩
abbrev cX8_refused : ByteArray := prog_10_method_4_code
def yX8_refused : MethodName := ⟨RX8, "refused", "(I)Z"⟩
abbrev cX8_isIn : ByteArray := prog_10_method_5_code
def yX8_isIn : MethodName := ⟨RX8, "isIn", "(III)Z"⟩
abbrev cX8_isClient : ByteArray := prog_10_method_6_code
def yX8_isClient : MethodName := ⟨RX8, "isClient", "(I)Z"⟩
abbrev cX8_down : ByteArray := prog_10_method_7_code
def yX8_down : MethodName := ⟨RX8, "down", "(JJ)J"⟩
abbrev cX8_downBy : ByteArray := prog_10_method_8_code
def yX8_downBy : MethodName := ⟨RX8, "downBy", "(II)I"⟩
abbrev cX8_isRate : ByteArray := prog_10_method_9_code
def yX8_isRate : MethodName := ⟨RX8, "isRate", "(I)Z"⟩
abbrev cX8_open : ByteArray := prog_10_method_10_code
def yX8_open : MethodName := ⟨RX8, "open", "(ZIII)I"⟩
abbrev cX8_close : ByteArray := prog_10_method_11_code
def yX8_close : MethodName := ⟨RX8, "close", "(I)V"⟩
abbrev cX8_gain : ByteArray := prog_10_method_12_code
def yX8_gain : MethodName := ⟨RX8, "gain", "(ID)V"⟩
abbrev cX8_start : ByteArray := prog_10_method_13_code
def yX8_start : MethodName := ⟨RX8, "start", "(I)V"⟩
abbrev cX8_pause : ByteArray := prog_10_method_14_code
def yX8_pause : MethodName := ⟨RX8, "pause", "(I)V"⟩
abbrev cX8_drain : ByteArray := prog_10_method_15_code
def yX8_drain : MethodName := ⟨RX8, "drain", "(I)V"⟩
abbrev cX8_state : ByteArray := prog_10_method_16_code
def yX8_state : MethodName := ⟨RX8, "state", "(I)I"⟩
abbrev cX8_placeOf : ByteArray := prog_10_method_17_code
def yX8_placeOf : MethodName := ⟨RX8, "placeOf", "(III)I"⟩
abbrev cX8_phaseOf : ByteArray := prog_10_method_18_code
def yX8_phaseOf : MethodName := ⟨RX8, "phaseOf", "(III)I"⟩
abbrev cX8_sampleAt : ByteArray := prog_10_method_19_code
def yX8_sampleAt : MethodName := ⟨RX8, "sampleAt", "(IIZ)I"⟩
abbrev cX8_between : ByteArray := prog_10_method_20_code
def yX8_between : MethodName := ⟨RX8, "between", "(IIIIZ)I"⟩
abbrev cX8_isBacked : ByteArray := prog_10_method_21_code
def yX8_isBacked : MethodName := ⟨RX8, "isBacked", "(IIII)Z"⟩
abbrev cX8_place : ByteArray := prog_10_method_22_code
def yX8_place : MethodName := ⟨RX8, "place", "(I)I"⟩
abbrev cX8_toSample : ByteArray := prog_10_method_23_code
def yX8_toSample : MethodName := ⟨RX8, "toSample", "(II)I"⟩
abbrev cX8_isNumber : ByteArray := prog_10_method_24_code
def yX8_isNumber : MethodName := ⟨RX8, "isNumber", "(II)Z"⟩
abbrev cX8_spare : ByteArray := prog_10_method_25_code
def yX8_spare : MethodName := ⟨RX8, "spare", "(I)I"⟩
abbrev cX8_add : ByteArray := prog_10_method_26_code
def yX8_add : MethodName := ⟨RX8, "add", "(III)V"⟩
abbrev cX8_write : ByteArray := prog_10_method_27_code
def yX8_write : MethodName := ⟨RX8, "write", "(II)Z"⟩
abbrev cX8_toNumber : ByteArray := prog_10_method_28_code
def yX8_toNumber : MethodName := ⟨RX8, "toNumber", "(II)I"⟩
abbrev cX8_read : ByteArray := prog_10_method_29_code
def yX8_read : MethodName := ⟨RX8, "read", "(I)I"⟩
abbrev cX8_room : ByteArray := prog_10_method_30_code
def yX8_room : MethodName := ⟨RX8, "room", "(I)I"⟩
abbrev cX8_ahead : ByteArray := prog_10_method_31_code
def yX8_ahead : MethodName := ⟨RX8, "ahead", "(I)I"⟩
abbrev cX8_giveNothing : ByteArray := prog_10_method_32_code
def yX8_giveNothing : MethodName := ⟨RX8, "giveNothing", "()V"⟩
abbrev cX8_giveOutputs : ByteArray := prog_10_method_33_code
def yX8_giveOutputs : MethodName := ⟨RX8, "giveOutputs", "(I)V"⟩
abbrev cX8_fade : ByteArray := prog_10_method_34_code
def yX8_fade : MethodName := ⟨RX8, "fade", "(I)V"⟩
abbrev cX8_give : ByteArray := prog_10_method_35_code
def yX8_give : MethodName := ⟨RX8, "give", "(I)Z"⟩
abbrev cX8_mix : ByteArray := prog_10_method_36_code
def yX8_mix : MethodName := ⟨RX8, "mix", "(I)V"⟩
abbrev cX8_sizeOf : ByteArray := prog_10_method_37_code
def yX8_sizeOf : MethodName := ⟨RX8, "sizeOf", "(I)J"⟩
abbrev cX8_cut : ByteArray := prog_10_method_38_code
def yX8_cut : MethodName := ⟨RX8, "cut", "(J)I"⟩
abbrev cX8_limitFrame : ByteArray := prog_10_method_39_code
def yX8_limitFrame : MethodName := ⟨RX8, "limitFrame", "(I)V"⟩
abbrev cX8_prepare : ByteArray := prog_10_method_40_code
def yX8_prepare : MethodName := ⟨RX8, "prepare", "()Z"⟩
abbrev cX8_capture : ByteArray := prog_10_method_41_code
def yX8_capture : MethodName := ⟨RX8, "capture", "(I)V"⟩
abbrev cX8_playOne : ByteArray := prog_10_method_42_code
def yX8_playOne : MethodName := ⟨RX8, "playOne", "(Z)V"⟩
abbrev cX8_shiftReady : ByteArray := prog_10_method_43_code
def yX8_shiftReady : MethodName := ⟨RX8, "shiftReady", "()V"⟩
abbrev cX8_card : ByteArray := prog_10_method_44_code
def yX8_card : MethodName := ⟨RX8, "card", "()Z"⟩
abbrev cX8_coming : ByteArray := prog_10_method_45_code
def yX8_coming : MethodName := ⟨RX8, "coming", "(IZI)V"⟩
abbrev cX8_played : ByteArray := prog_10_method_46_code
def yX8_played : MethodName := ⟨RX8, "played", "(IIZ)I"⟩
abbrev cX8_position : ByteArray := prog_10_method_47_code
def yX8_position : MethodName := ⟨RX8, "position", "(I)I"⟩
abbrev cX8_late : ByteArray := prog_10_method_48_code
def yX8_late : MethodName := ⟨RX8, "late", "(I)I"⟩
abbrev cX8_level : ByteArray := prog_10_method_49_code
def yX8_level : MethodName := ⟨RX8, "level", "(I)D"⟩
abbrev cX8_clipped : ByteArray := prog_10_method_50_code
def yX8_clipped : MethodName := ⟨RX8, "clipped", "()I"⟩
abbrev cX8_limit : ByteArray := prog_10_method_51_code
def yX8_limit : MethodName := ⟨RX8, "limit", "(Z)Z"⟩
abbrev cX8_value : ByteArray := prog_10_method_52_code
def yX8_value : MethodName := ⟨RX8, "value", "()I"⟩
abbrev cX8_tap : ByteArray := prog_10_method_53_code
def yX8_tap : MethodName := ⟨RX8, "tap", "(II)I"⟩
def RJ9 : String := "java/lang/Math"
def TJ9 : u_T := fun k => match k with
  | _ => ("", "", "", false)
def tyJ9 : Nat → FieldType := fun k => match k with
  | _ => .int
theorem nmJ9 : ∀ a, a < 0 → ∀ b, b < 0 → a ≠ b → (TJ9 a).2.1 ≠ (TJ9 b).2.1 := by decide +kernel
theorem tyJ9_ok : ∀ k, k < 0 → parseFieldDescriptor (TJ9 k).2.2.1 = some (tyJ9 k) := by decide +kernel
abbrev cJ9_floorDiv_7cf53 : ByteArray := prog_14_method_47_code
def yJ9_floorDiv_7cf53 : MethodName := ⟨RJ9, "floorDiv", "(II)I"⟩
abbrev cJ9_floorDiv_f86c9 : ByteArray := prog_14_method_49_code
def yJ9_floorDiv_f86c9 : MethodName := ⟨RJ9, "floorDiv", "(JJ)J"⟩
abbrev cJ9_floorMod_7cf53 : ByteArray := prog_14_method_50_code
def yJ9_floorMod_7cf53 : MethodName := ⟨RJ9, "floorMod", "(II)I"⟩
abbrev cJ9_abs_0f7a4 : ByteArray := prog_14_method_59_code
def yJ9_abs_0f7a4 : MethodName := ⟨RJ9, "abs", "(I)I"⟩
abbrev cJ9_max_7cf53 : ByteArray := prog_14_method_65_code
def yJ9_max_7cf53 : MethodName := ⟨RJ9, "max", "(II)I"⟩
abbrev cJ9_min_7cf53 : ByteArray := prog_14_method_69_code
def yJ9_min_7cf53 : MethodName := ⟨RJ9, "min", "(II)I"⟩
def RJ0 : String := "java/lang/String"
def TJ0 : u_T := fun k => match k with
  | _ => ("", "", "", false)
def tyJ0 : Nat → FieldType := fun k => match k with
  | _ => .int
theorem nmJ0 : ∀ a, a < 0 → ∀ b, b < 0 → a ≠ b → (TJ0 a).2.1 ≠ (TJ0 b).2.1 := by decide +kernel
theorem tyJ0_ok : ∀ k, k < 0 → parseFieldDescriptor (TJ0 k).2.2.1 = some (tyJ0 k) := by decide +kernel
def RJ10 : String := "java/lang/System"
def TJ10 : u_T := fun k => match k with
  | _ => ("", "", "", false)
def tyJ10 : Nat → FieldType := fun k => match k with
  | _ => .int
theorem nmJ10 : ∀ a, a < 0 → ∀ b, b < 0 → a ≠ b → (TJ10 a).2.1 ≠ (TJ10 b).2.1 := by decide +kernel
theorem tyJ10_ok : ∀ k, k < 0 → parseFieldDescriptor (TJ10 k).2.2.1 = some (tyJ10 k) := by decide +kernel
def RJ7 : String := "java/util/Arrays"
def TJ7 : u_T := fun k => match k with
  | _ => ("", "", "", false)
def tyJ7 : Nat → FieldType := fun k => match k with
  | _ => .int
theorem nmJ7 : ∀ a, a < 0 → ∀ b, b < 0 → a ≠ b → (TJ7 a).2.1 ≠ (TJ7 b).2.1 := by decide +kernel
theorem tyJ7_ok : ∀ k, k < 0 → parseFieldDescriptor (TJ7 k).2.2.1 = some (tyJ7 k) := by decide +kernel
abbrev cJ7_fill_53178 : ByteArray := prog_19_method_103_code
def yJ7_fill_53178 : MethodName := ⟨RJ7, "fill", "([II)V"⟩
def RL : String := "SoundKernelLaw"
abbrev cL_open : ByteArray := method_3_code
def yL_open : MethodName := ⟨RL, "open", "(LSoundKernel;ZIII[J)I"⟩
abbrev cL_close : ByteArray := method_4_code
def yL_close : MethodName := ⟨RL, "close", "(LSoundKernel;I)I"⟩
abbrev cL_gain : ByteArray := method_5_code
def yL_gain : MethodName := ⟨RL, "gain", "(LSoundKernel;ID)I"⟩
abbrev cL_start : ByteArray := method_6_code
def yL_start : MethodName := ⟨RL, "start", "(LSoundKernel;I)I"⟩
abbrev cL_pause : ByteArray := method_7_code
def yL_pause : MethodName := ⟨RL, "pause", "(LSoundKernel;I)I"⟩
abbrev cL_drain : ByteArray := method_8_code
def yL_drain : MethodName := ⟨RL, "drain", "(LSoundKernel;I)I"⟩
abbrev cL_state : ByteArray := method_9_code
def yL_state : MethodName := ⟨RL, "state", "(LSoundKernel;I[J)I"⟩
abbrev cL_write : ByteArray := method_10_code
def yL_write : MethodName := ⟨RL, "write", "(LSoundKernel;II[J)I"⟩
abbrev cL_read : ByteArray := method_11_code
def yL_read : MethodName := ⟨RL, "read", "(LSoundKernel;I[J)I"⟩
abbrev cL_room : ByteArray := method_12_code
def yL_room : MethodName := ⟨RL, "room", "(LSoundKernel;I[J)I"⟩
abbrev cL_ahead : ByteArray := method_13_code
def yL_ahead : MethodName := ⟨RL, "ahead", "(LSoundKernel;I[J)I"⟩
abbrev cL_coming : ByteArray := method_14_code
def yL_coming : MethodName := ⟨RL, "coming", "(LSoundKernel;IZI)I"⟩
abbrev cL_played : ByteArray := method_15_code
def yL_played : MethodName := ⟨RL, "played", "(LSoundKernel;IIZ[J)I"⟩
abbrev cL_position : ByteArray := method_16_code
def yL_position : MethodName := ⟨RL, "position", "(LSoundKernel;I[J)I"⟩
abbrev cL_late : ByteArray := method_17_code
def yL_late : MethodName := ⟨RL, "late", "(LSoundKernel;I[J)I"⟩
abbrev cL_level : ByteArray := method_18_code
def yL_level : MethodName := ⟨RL, "level", "(LSoundKernel;I[D)I"⟩
abbrev cL_tap : ByteArray := method_19_code
def yL_tap : MethodName := ⟨RL, "tap", "(LSoundKernel;II[J)I"⟩
abbrev cL_law : ByteArray := code
def yL_law : MethodName := ⟨RL, "law", "([I)Z"⟩
abbrev vwCl : List vw_C := [(RX1, TX1, 3), (RX2, TX2, 3), (RX3, TX3, 4), (RX4, TX4, 10), (RX5, TX5, 15), (RX6, TX6, 1), (RX7, TX7, 11), (RX8, TX8, 40)]
end
section
theorem dX0_init_0 : decode cX0_init 0 = .ok (.aload_n 0, 1) := by decide +kernel
theorem dX0_init_1 : decode cX0_init 1 = .ok (.invokespecial 3, 3) := by decide +kernel
theorem dX0_init_4 : decode cX0_init 4 = .ok (.aload_n 0, 1) := by decide +kernel
theorem dX0_init_5 : decode cX0_init 5 = .ok (.iconst 0, 1) := by decide +kernel
theorem dX0_init_6 : decode cX0_init 6 = .ok (.putfield 9, 3) := by decide +kernel
theorem dX0_init_9 : decode cX0_init 9 = .ok (.aload_n 0, 1) := by decide +kernel
theorem dX0_init_10 : decode cX0_init 10 = .ok (.iconst 0, 1) := by decide +kernel
theorem dX0_init_11 : decode cX0_init 11 = .ok (.putfield 15, 3) := by decide +kernel
theorem dX0_init_14 : decode cX0_init 14 = .ok (.aload_n 0, 1) := by decide +kernel
theorem dX0_init_15 : decode cX0_init 15 = .ok (.iconst 0, 1) := by decide +kernel
theorem dX0_init_16 : decode cX0_init 16 = .ok (.putfield 18, 3) := by decide +kernel
theorem dX0_init_19 : decode cX0_init 19 = .ok (.aload_n 0, 1) := by decide +kernel
theorem dX0_init_20 : decode cX0_init 20 = .ok (.iload_n 1, 1) := by decide +kernel
theorem dX0_init_21 : decode cX0_init 21 = .ok (.putfield 22, 3) := by decide +kernel
theorem dX0_init_24 : decode cX0_init 24 = .ok (.aload_n 0, 1) := by decide +kernel
theorem dX0_init_25 : decode cX0_init 25 = .ok (.iload_n 2, 1) := by decide +kernel
theorem dX0_init_26 : decode cX0_init 26 = .ok (.putfield 25, 3) := by decide +kernel
theorem dX0_init_29 : decode cX0_init 29 = .ok (.return_, 1) := by decide +kernel
theorem dX0_numbersOf_0 : decode cX0_numbersOf 0 = .ok (.lload_n 1, 1) := by decide +kernel
theorem dX0_numbersOf_1 : decode cX0_numbersOf 1 = .ok (.l2i, 1) := by decide +kernel
theorem dX0_numbersOf_2 : decode cX0_numbersOf 2 = .ok (.aload_n 0, 1) := by decide +kernel
theorem dX0_numbersOf_3 : decode cX0_numbersOf 3 = .ok (.getfield 22, 3) := by decide +kernel
theorem dX0_numbersOf_6 : decode cX0_numbersOf 6 = .ok (.imul, 1) := by decide +kernel
theorem dX0_numbersOf_7 : decode cX0_numbersOf 7 = .ok (.aload_n 0, 1) := by decide +kernel
theorem dX0_numbersOf_8 : decode cX0_numbersOf 8 = .ok (.getfield 18, 3) := by decide +kernel
theorem dX0_numbersOf_11 : decode cX0_numbersOf 11 = .ok (.ifCond .eq 7, 3) := by decide +kernel
theorem dX0_numbersOf_14 : decode cX0_numbersOf 14 = .ok (.iconst 1, 1) := by decide +kernel
theorem dX0_numbersOf_15 : decode cX0_numbersOf 15 = .ok (.goto 4, 3) := by decide +kernel
theorem dX0_numbersOf_18 : decode cX0_numbersOf 18 = .ok (.iconst 0, 1) := by decide +kernel
theorem dX0_numbersOf_19 : decode cX0_numbersOf 19 = .ok (.isub, 1) := by decide +kernel
theorem dX0_numbersOf_20 : decode cX0_numbersOf 20 = .ok (.ireturn, 1) := by decide +kernel
theorem dX0_isNumber_0 : decode cX0_isNumber 0 = .ok (.aload_n 0, 1) := by decide +kernel
theorem dX0_isNumber_1 : decode cX0_isNumber 1 = .ok (.getfield 25, 3) := by decide +kernel
theorem dX0_isNumber_4 : decode cX0_isNumber 4 = .ok (.bipush 8, 2) := by decide +kernel
theorem dX0_isNumber_6 : decode cX0_isNumber 6 = .ok (.if_icmp .ne 22, 3) := by decide +kernel
theorem dX0_isNumber_9 : decode cX0_isNumber 9 = .ok (.iload_n 1, 1) := by decide +kernel
theorem dX0_isNumber_10 : decode cX0_isNumber 10 = .ok (.ifCond .lt 14, 3) := by decide +kernel
theorem dX0_isNumber_13 : decode cX0_isNumber 13 = .ok (.iload_n 1, 1) := by decide +kernel
theorem dX0_isNumber_14 : decode cX0_isNumber 14 = .ok (.sipush 255, 3) := by decide +kernel
theorem dX0_isNumber_17 : decode cX0_isNumber 17 = .ok (.if_icmp .gt 7, 3) := by decide +kernel
theorem dX0_isNumber_20 : decode cX0_isNumber 20 = .ok (.iconst 1, 1) := by decide +kernel
theorem dX0_isNumber_21 : decode cX0_isNumber 21 = .ok (.goto 11, 3) := by decide +kernel
theorem dX0_isNumber_24 : decode cX0_isNumber 24 = .ok (.iconst 0, 1) := by decide +kernel
theorem dX0_isNumber_25 : decode cX0_isNumber 25 = .ok (.goto 7, 3) := by decide +kernel
theorem dX0_isNumber_28 : decode cX0_isNumber 28 = .ok (.iload_n 1, 1) := by decide +kernel
theorem dX0_isNumber_29 : decode cX0_isNumber 29 = .ok (.invokestatic 28, 3) := by decide +kernel
theorem dX0_isNumber_32 : decode cX0_isNumber 32 = .ok (.ireturn, 1) := by decide +kernel
theorem dX0_sampleOf_0 : decode cX0_sampleOf 0 = .ok (.aload_n 0, 1) := by decide +kernel
theorem dX0_sampleOf_1 : decode cX0_sampleOf 1 = .ok (.getfield 25, 3) := by decide +kernel
theorem dX0_sampleOf_4 : decode cX0_sampleOf 4 = .ok (.bipush 8, 2) := by decide +kernel
theorem dX0_sampleOf_6 : decode cX0_sampleOf 6 = .ok (.if_icmp .ne 15, 3) := by decide +kernel
theorem dX0_sampleOf_9 : decode cX0_sampleOf 9 = .ok (.iload_n 1, 1) := by decide +kernel
theorem dX0_sampleOf_10 : decode cX0_sampleOf 10 = .ok (.sipush 128, 3) := by decide +kernel
theorem dX0_sampleOf_13 : decode cX0_sampleOf 13 = .ok (.isub, 1) := by decide +kernel
theorem dX0_sampleOf_14 : decode cX0_sampleOf 14 = .ok (.sipush 256, 3) := by decide +kernel
theorem dX0_sampleOf_17 : decode cX0_sampleOf 17 = .ok (.imul, 1) := by decide +kernel
theorem dX0_sampleOf_18 : decode cX0_sampleOf 18 = .ok (.goto 4, 3) := by decide +kernel
theorem dX0_sampleOf_21 : decode cX0_sampleOf 21 = .ok (.iload_n 1, 1) := by decide +kernel
theorem dX0_sampleOf_22 : decode cX0_sampleOf 22 = .ok (.ireturn, 1) := by decide +kernel
theorem dX0_numberOf_0 : decode cX0_numberOf 0 = .ok (.aload_n 0, 1) := by decide +kernel
theorem dX0_numberOf_1 : decode cX0_numberOf 1 = .ok (.getfield 25, 3) := by decide +kernel
theorem dX0_numberOf_4 : decode cX0_numberOf 4 = .ok (.bipush 8, 2) := by decide +kernel
theorem dX0_numberOf_6 : decode cX0_numberOf 6 = .ok (.if_icmp .ne 17, 3) := by decide +kernel
theorem dX0_numberOf_9 : decode cX0_numberOf 9 = .ok (.iload_n 1, 1) := by decide +kernel
theorem dX0_numberOf_10 : decode cX0_numberOf 10 = .ok (.sipush 256, 3) := by decide +kernel
theorem dX0_numberOf_13 : decode cX0_numberOf 13 = .ok (.invokestatic 32, 3) := by decide +kernel
theorem dX0_numberOf_16 : decode cX0_numberOf 16 = .ok (.sipush 128, 3) := by decide +kernel
theorem dX0_numberOf_19 : decode cX0_numberOf 19 = .ok (.iadd, 1) := by decide +kernel
theorem dX0_numberOf_20 : decode cX0_numberOf 20 = .ok (.goto 4, 3) := by decide +kernel
theorem dX0_numberOf_23 : decode cX0_numberOf 23 = .ok (.iload_n 1, 1) := by decide +kernel
theorem dX0_numberOf_24 : decode cX0_numberOf 24 = .ok (.ireturn, 1) := by decide +kernel
theorem dX1_init_0 : decode cX1_init 0 = .ok (.aload_n 0, 1) := by decide +kernel
theorem dX1_init_1 : decode cX1_init 1 = .ok (.invokespecial 1, 3) := by decide +kernel
theorem dX1_init_4 : decode cX1_init 4 = .ok (.aload_n 0, 1) := by decide +kernel
theorem dX1_init_5 : decode cX1_init 5 = .ok (.aload_n 1, 1) := by decide +kernel
theorem dX1_init_6 : decode cX1_init 6 = .ok (.putfield 7, 3) := by decide +kernel
theorem dX1_init_9 : decode cX1_init 9 = .ok (.aload_n 0, 1) := by decide +kernel
theorem dX1_init_10 : decode cX1_init 10 = .ok (.iload_n 2, 1) := by decide +kernel
theorem dX1_init_11 : decode cX1_init 11 = .ok (.i2l, 1) := by decide +kernel
theorem dX1_init_12 : decode cX1_init 12 = .ok (.putfield 13, 3) := by decide +kernel
theorem dX1_init_15 : decode cX1_init 15 = .ok (.aload_n 0, 1) := by decide +kernel
theorem dX1_init_16 : decode cX1_init 16 = .ok (.iconst 1, 1) := by decide +kernel
theorem dX1_init_17 : decode cX1_init 17 = .ok (.iload_n 3, 1) := by decide +kernel
theorem dX1_init_18 : decode cX1_init 18 = .ok (.invokestatic 17, 3) := by decide +kernel
theorem dX1_init_21 : decode cX1_init 21 = .ok (.i2l, 1) := by decide +kernel
theorem dX1_init_22 : decode cX1_init 22 = .ok (.putfield 23, 3) := by decide +kernel
theorem dX1_init_25 : decode cX1_init 25 = .ok (.return_, 1) := by decide +kernel
theorem dX1_isPlain_0 : decode cX1_isPlain 0 = .ok (.aload_n 0, 1) := by decide +kernel
theorem dX1_isPlain_1 : decode cX1_isPlain 1 = .ok (.getfield 13, 3) := by decide +kernel
theorem dX1_isPlain_4 : decode cX1_isPlain 4 = .ok (.aload_n 0, 1) := by decide +kernel
theorem dX1_isPlain_5 : decode cX1_isPlain 5 = .ok (.getfield 23, 3) := by decide +kernel
theorem dX1_isPlain_8 : decode cX1_isPlain 8 = .ok (.lcmp, 1) := by decide +kernel
theorem dX1_isPlain_9 : decode cX1_isPlain 9 = .ok (.ifCond .ne 7, 3) := by decide +kernel
theorem dX1_isPlain_12 : decode cX1_isPlain 12 = .ok (.iconst 1, 1) := by decide +kernel
theorem dX1_isPlain_13 : decode cX1_isPlain 13 = .ok (.goto 4, 3) := by decide +kernel
theorem dX1_isPlain_16 : decode cX1_isPlain 16 = .ok (.iconst 0, 1) := by decide +kernel
theorem dX1_isPlain_17 : decode cX1_isPlain 17 = .ok (.ireturn, 1) := by decide +kernel
theorem dX1_wholePlace_0 : decode cX1_wholePlace 0 = .ok (.lload_n 1, 1) := by decide +kernel
theorem dX1_wholePlace_1 : decode cX1_wholePlace 1 = .ok (.aload_n 0, 1) := by decide +kernel
theorem dX1_wholePlace_2 : decode cX1_wholePlace 2 = .ok (.getfield 13, 3) := by decide +kernel
theorem dX1_wholePlace_5 : decode cX1_wholePlace 5 = .ok (.lmul, 1) := by decide +kernel
theorem dX1_wholePlace_6 : decode cX1_wholePlace 6 = .ok (.aload_n 0, 1) := by decide +kernel
theorem dX1_wholePlace_7 : decode cX1_wholePlace 7 = .ok (.getfield 23, 3) := by decide +kernel
theorem dX1_wholePlace_10 : decode cX1_wholePlace 10 = .ok (.ldiv, 1) := by decide +kernel
theorem dX1_wholePlace_11 : decode cX1_wholePlace 11 = .ok (.lreturn, 1) := by decide +kernel
theorem dX1_lastNeeded_0 : decode cX1_lastNeeded 0 = .ok (.aload_n 0, 1) := by decide +kernel
theorem dX1_lastNeeded_1 : decode cX1_lastNeeded 1 = .ok (.invokevirtual 26, 3) := by decide +kernel
theorem dX1_lastNeeded_4 : decode cX1_lastNeeded 4 = .ok (.ifCond .eq 7, 3) := by decide +kernel
theorem dX1_lastNeeded_7 : decode cX1_lastNeeded 7 = .ok (.lload_n 1, 1) := by decide +kernel
theorem dX1_lastNeeded_8 : decode cX1_lastNeeded 8 = .ok (.goto 18, 3) := by decide +kernel
theorem dX1_lastNeeded_11 : decode cX1_lastNeeded 11 = .ok (.aload_n 0, 1) := by decide +kernel
theorem dX1_lastNeeded_12 : decode cX1_lastNeeded 12 = .ok (.lload_n 1, 1) := by decide +kernel
theorem dX1_lastNeeded_13 : decode cX1_lastNeeded 13 = .ok (.invokevirtual 30, 3) := by decide +kernel
theorem dX1_lastNeeded_16 : decode cX1_lastNeeded 16 = .ok (.ldc2_w 36, 3) := by decide +kernel
theorem dX1_lastNeeded_19 : decode cX1_lastNeeded 19 = .ok (.ladd, 1) := by decide +kernel
theorem dX1_lastNeeded_20 : decode cX1_lastNeeded 20 = .ok (.lconst 1, 1) := by decide +kernel
theorem dX1_lastNeeded_21 : decode cX1_lastNeeded 21 = .ok (.lsub, 1) := by decide +kernel
theorem dX1_lastNeeded_22 : decode cX1_lastNeeded 22 = .ok (.ldc2_w 38, 3) := by decide +kernel
theorem dX1_lastNeeded_25 : decode cX1_lastNeeded 25 = .ok (.lsub, 1) := by decide +kernel
theorem dX1_lastNeeded_26 : decode cX1_lastNeeded 26 = .ok (.lreturn, 1) := by decide +kernel
theorem dX1_sample_0 : decode cX1_sample 0 = .ok (.aload_n 0, 1) := by decide +kernel
theorem dX1_sample_1 : decode cX1_sample 1 = .ok (.invokevirtual 26, 3) := by decide +kernel
theorem dX1_sample_4 : decode cX1_sample 4 = .ok (.ifCond .eq 11, 3) := by decide +kernel
theorem dX1_sample_7 : decode cX1_sample 7 = .ok (.aload_n 1, 1) := by decide +kernel
theorem dX1_sample_8 : decode cX1_sample 8 = .ok (.lload_n 2, 1) := by decide +kernel
theorem dX1_sample_9 : decode cX1_sample 9 = .ok (.iload 4, 2) := by decide +kernel
theorem dX1_sample_11 : decode cX1_sample 11 = .ok (.invokevirtual 40, 3) := by decide +kernel
theorem dX1_sample_14 : decode cX1_sample 14 = .ok (.ireturn, 1) := by decide +kernel
theorem dX1_sample_15 : decode cX1_sample 15 = .ok (.lload_n 2, 1) := by decide +kernel
theorem dX1_sample_16 : decode cX1_sample 16 = .ok (.aload_n 0, 1) := by decide +kernel
theorem dX1_sample_17 : decode cX1_sample 17 = .ok (.getfield 13, 3) := by decide +kernel
theorem dX1_sample_20 : decode cX1_sample 20 = .ok (.lmul, 1) := by decide +kernel
theorem dX1_sample_21 : decode cX1_sample 21 = .ok (.aload_n 0, 1) := by decide +kernel
theorem dX1_sample_22 : decode cX1_sample 22 = .ok (.getfield 23, 3) := by decide +kernel
theorem dX1_sample_25 : decode cX1_sample 25 = .ok (.lrem, 1) := by decide +kernel
theorem dX1_sample_26 : decode cX1_sample 26 = .ok (.ldc2_w 46, 3) := by decide +kernel
theorem dX1_sample_29 : decode cX1_sample 29 = .ok (.lmul, 1) := by decide +kernel
theorem dX1_sample_30 : decode cX1_sample 30 = .ok (.aload_n 0, 1) := by decide +kernel
theorem dX1_sample_31 : decode cX1_sample 31 = .ok (.getfield 23, 3) := by decide +kernel
theorem dX1_sample_34 : decode cX1_sample 34 = .ok (.ldiv, 1) := by decide +kernel
theorem dX1_sample_35 : decode cX1_sample 35 = .ok (.l2i, 1) := by decide +kernel
theorem dX1_sample_36 : decode cX1_sample 36 = .ok (.istore 5, 2) := by decide +kernel
theorem dX1_sample_38 : decode cX1_sample 38 = .ok (.aload_n 0, 1) := by decide +kernel
theorem dX1_sample_39 : decode cX1_sample 39 = .ok (.lload_n 2, 1) := by decide +kernel
theorem dX1_sample_40 : decode cX1_sample 40 = .ok (.invokevirtual 30, 3) := by decide +kernel
theorem dX1_sample_43 : decode cX1_sample 43 = .ok (.ldc2_w 38, 3) := by decide +kernel
theorem dX1_sample_46 : decode cX1_sample 46 = .ok (.lsub, 1) := by decide +kernel
theorem dX1_sample_47 : decode cX1_sample 47 = .ok (.lstore 6, 2) := by decide +kernel
theorem dX1_sample_49 : decode cX1_sample 49 = .ok (.lconst 0, 1) := by decide +kernel
theorem dX1_sample_50 : decode cX1_sample 50 = .ok (.lstore 8, 2) := by decide +kernel
theorem dX1_sample_52 : decode cX1_sample 52 = .ok (.iconst 0, 1) := by decide +kernel
theorem dX1_sample_53 : decode cX1_sample 53 = .ok (.istore 10, 2) := by decide +kernel
theorem dX1_sample_55 : decode cX1_sample 55 = .ok (.iload 10, 2) := by decide +kernel
theorem dX1_sample_57 : decode cX1_sample 57 = .ok (.bipush 16, 2) := by decide +kernel
theorem dX1_sample_59 : decode cX1_sample 59 = .ok (.if_icmp .ge 40, 3) := by decide +kernel
theorem dX1_sample_62 : decode cX1_sample 62 = .ok (.lload 8, 2) := by decide +kernel
theorem dX1_sample_64 : decode cX1_sample 64 = .ok (.aload_n 0, 1) := by decide +kernel
theorem dX1_sample_65 : decode cX1_sample 65 = .ok (.getfield 7, 3) := by decide +kernel
theorem dX1_sample_68 : decode cX1_sample 68 = .ok (.iload 5, 2) := by decide +kernel
theorem dX1_sample_70 : decode cX1_sample 70 = .ok (.iload 10, 2) := by decide +kernel
theorem dX1_sample_72 : decode cX1_sample 72 = .ok (.invokevirtual 48, 3) := by decide +kernel
theorem dX1_sample_75 : decode cX1_sample 75 = .ok (.i2l, 1) := by decide +kernel
theorem dX1_sample_76 : decode cX1_sample 76 = .ok (.aload_n 1, 1) := by decide +kernel
theorem dX1_sample_77 : decode cX1_sample 77 = .ok (.lload 6, 2) := by decide +kernel
theorem dX1_sample_79 : decode cX1_sample 79 = .ok (.iload 10, 2) := by decide +kernel
theorem dX1_sample_81 : decode cX1_sample 81 = .ok (.i2l, 1) := by decide +kernel
theorem dX1_sample_82 : decode cX1_sample 82 = .ok (.ladd, 1) := by decide +kernel
theorem dX1_sample_83 : decode cX1_sample 83 = .ok (.iload 4, 2) := by decide +kernel
theorem dX1_sample_85 : decode cX1_sample 85 = .ok (.invokevirtual 40, 3) := by decide +kernel
theorem dX1_sample_88 : decode cX1_sample 88 = .ok (.i2l, 1) := by decide +kernel
theorem dX1_sample_89 : decode cX1_sample 89 = .ok (.lmul, 1) := by decide +kernel
theorem dX1_sample_90 : decode cX1_sample 90 = .ok (.ladd, 1) := by decide +kernel
theorem dX1_sample_91 : decode cX1_sample 91 = .ok (.lstore 8, 2) := by decide +kernel
theorem dX1_sample_93 : decode cX1_sample 93 = .ok (.iinc 10 1, 3) := by decide +kernel
theorem dX1_sample_96 : decode cX1_sample 96 = .ok (.goto (-41), 3) := by decide +kernel
theorem dX1_sample_99 : decode cX1_sample 99 = .ok (.lload 8, 2) := by decide +kernel
theorem dX1_sample_101 : decode cX1_sample 101 = .ok (.ldc2_w 51, 3) := by decide +kernel
theorem dX1_sample_104 : decode cX1_sample 104 = .ok (.invokestatic 53, 3) := by decide +kernel
theorem dX1_sample_107 : decode cX1_sample 107 = .ok (.l2i, 1) := by decide +kernel
theorem dX1_sample_108 : decode cX1_sample 108 = .ok (.ireturn, 1) := by decide +kernel
theorem dX2_init_0 : decode cX2_init 0 = .ok (.aload_n 0, 1) := by decide +kernel
theorem dX2_init_1 : decode cX2_init 1 = .ok (.invokespecial 1, 3) := by decide +kernel
theorem dX2_init_4 : decode cX2_init 4 = .ok (.aload_n 0, 1) := by decide +kernel
theorem dX2_init_5 : decode cX2_init 5 = .ok (.sipush 256, 3) := by decide +kernel
theorem dX2_init_8 : decode cX2_init 8 = .ok (.newarray .int, 2) := by decide +kernel
theorem dX2_init_10 : decode cX2_init 10 = .ok (.putfield 9, 3) := by decide +kernel
theorem dX2_init_13 : decode cX2_init 13 = .ok (.aload_n 0, 1) := by decide +kernel
theorem dX2_init_14 : decode cX2_init 14 = .ok (.sipush 256, 3) := by decide +kernel
theorem dX2_init_17 : decode cX2_init 17 = .ok (.newarray .int, 2) := by decide +kernel
theorem dX2_init_19 : decode cX2_init 19 = .ok (.putfield 13, 3) := by decide +kernel
theorem dX2_init_22 : decode cX2_init 22 = .ok (.aload_n 0, 1) := by decide +kernel
theorem dX2_init_23 : decode cX2_init 23 = .ok (.lconst 0, 1) := by decide +kernel
theorem dX2_init_24 : decode cX2_init 24 = .ok (.putfield 16, 3) := by decide +kernel
theorem dX2_init_27 : decode cX2_init 27 = .ok (.return_, 1) := by decide +kernel
theorem dX2_add_0 : decode cX2_add 0 = .ok (.aload_n 0, 1) := by decide +kernel
theorem dX2_add_1 : decode cX2_add 1 = .ok (.getfield 16, 3) := by decide +kernel
theorem dX2_add_4 : decode cX2_add 4 = .ok (.ldc2_w 20, 3) := by decide +kernel
theorem dX2_add_7 : decode cX2_add 7 = .ok (.land, 1) := by decide +kernel
theorem dX2_add_8 : decode cX2_add 8 = .ok (.l2i, 1) := by decide +kernel
theorem dX2_add_9 : decode cX2_add 9 = .ok (.istore_n 3, 1) := by decide +kernel
theorem dX2_add_10 : decode cX2_add 10 = .ok (.aload_n 0, 1) := by decide +kernel
theorem dX2_add_11 : decode cX2_add 11 = .ok (.getfield 9, 3) := by decide +kernel
theorem dX2_add_14 : decode cX2_add 14 = .ok (.iload_n 3, 1) := by decide +kernel
theorem dX2_add_15 : decode cX2_add 15 = .ok (.iload_n 1, 1) := by decide +kernel
theorem dX2_add_16 : decode cX2_add 16 = .ok (.iastore, 1) := by decide +kernel
theorem dX2_add_17 : decode cX2_add 17 = .ok (.aload_n 0, 1) := by decide +kernel
theorem dX2_add_18 : decode cX2_add 18 = .ok (.getfield 13, 3) := by decide +kernel
theorem dX2_add_21 : decode cX2_add 21 = .ok (.iload_n 3, 1) := by decide +kernel
theorem dX2_add_22 : decode cX2_add 22 = .ok (.iload_n 2, 1) := by decide +kernel
theorem dX2_add_23 : decode cX2_add 23 = .ok (.iastore, 1) := by decide +kernel
theorem dX2_add_24 : decode cX2_add 24 = .ok (.aload_n 0, 1) := by decide +kernel
theorem dX2_add_25 : decode cX2_add 25 = .ok (.dup, 1) := by decide +kernel
theorem dX2_add_26 : decode cX2_add 26 = .ok (.getfield 16, 3) := by decide +kernel
theorem dX2_add_29 : decode cX2_add 29 = .ok (.lconst 1, 1) := by decide +kernel
theorem dX2_add_30 : decode cX2_add 30 = .ok (.ladd, 1) := by decide +kernel
theorem dX2_add_31 : decode cX2_add 31 = .ok (.putfield 16, 3) := by decide +kernel
theorem dX2_add_34 : decode cX2_add 34 = .ok (.return_, 1) := by decide +kernel
theorem dX2_sample_0 : decode cX2_sample 0 = .ok (.lload_n 1, 1) := by decide +kernel
theorem dX2_sample_1 : decode cX2_sample 1 = .ok (.lconst 0, 1) := by decide +kernel
theorem dX2_sample_2 : decode cX2_sample 2 = .ok (.lcmp, 1) := by decide +kernel
theorem dX2_sample_3 : decode cX2_sample 3 = .ok (.ifCond .lt 12, 3) := by decide +kernel
theorem dX2_sample_6 : decode cX2_sample 6 = .ok (.lload_n 1, 1) := by decide +kernel
theorem dX2_sample_7 : decode cX2_sample 7 = .ok (.aload_n 0, 1) := by decide +kernel
theorem dX2_sample_8 : decode cX2_sample 8 = .ok (.getfield 16, 3) := by decide +kernel
theorem dX2_sample_11 : decode cX2_sample 11 = .ok (.lcmp, 1) := by decide +kernel
theorem dX2_sample_12 : decode cX2_sample 12 = .ok (.ifCond .lt 5, 3) := by decide +kernel
theorem dX2_sample_15 : decode cX2_sample 15 = .ok (.iconst 0, 1) := by decide +kernel
theorem dX2_sample_16 : decode cX2_sample 16 = .ok (.ireturn, 1) := by decide +kernel
theorem dX2_sample_17 : decode cX2_sample 17 = .ok (.lload_n 1, 1) := by decide +kernel
theorem dX2_sample_18 : decode cX2_sample 18 = .ok (.ldc2_w 20, 3) := by decide +kernel
theorem dX2_sample_21 : decode cX2_sample 21 = .ok (.land, 1) := by decide +kernel
theorem dX2_sample_22 : decode cX2_sample 22 = .ok (.l2i, 1) := by decide +kernel
theorem dX2_sample_23 : decode cX2_sample 23 = .ok (.istore 4, 2) := by decide +kernel
theorem dX2_sample_25 : decode cX2_sample 25 = .ok (.iload_n 3, 1) := by decide +kernel
theorem dX2_sample_26 : decode cX2_sample 26 = .ok (.ifCond .eq 13, 3) := by decide +kernel
theorem dX2_sample_29 : decode cX2_sample 29 = .ok (.aload_n 0, 1) := by decide +kernel
theorem dX2_sample_30 : decode cX2_sample 30 = .ok (.getfield 13, 3) := by decide +kernel
theorem dX2_sample_33 : decode cX2_sample 33 = .ok (.iload 4, 2) := by decide +kernel
theorem dX2_sample_35 : decode cX2_sample 35 = .ok (.iaload, 1) := by decide +kernel
theorem dX2_sample_36 : decode cX2_sample 36 = .ok (.goto 10, 3) := by decide +kernel
theorem dX2_sample_39 : decode cX2_sample 39 = .ok (.aload_n 0, 1) := by decide +kernel
theorem dX2_sample_40 : decode cX2_sample 40 = .ok (.getfield 9, 3) := by decide +kernel
theorem dX2_sample_43 : decode cX2_sample 43 = .ok (.iload 4, 2) := by decide +kernel
theorem dX2_sample_45 : decode cX2_sample 45 = .ok (.iaload, 1) := by decide +kernel
theorem dX2_sample_46 : decode cX2_sample 46 = .ok (.ireturn, 1) := by decide +kernel
theorem dX3_init_0 : decode cX3_init 0 = .ok (.aload_n 0, 1) := by decide +kernel
theorem dX3_init_1 : decode cX3_init 1 = .ok (.invokespecial 3, 3) := by decide +kernel
theorem dX3_init_4 : decode cX3_init 4 = .ok (.aload_n 0, 1) := by decide +kernel
theorem dX3_init_5 : decode cX3_init 5 = .ok (.iconst 1, 1) := by decide +kernel
theorem dX3_init_6 : decode cX3_init 6 = .ok (.putfield 9, 3) := by decide +kernel
theorem dX3_init_9 : decode cX3_init 9 = .ok (.aload_n 0, 1) := by decide +kernel
theorem dX3_init_10 : decode cX3_init 10 = .ok (.sipush 4096, 3) := by decide +kernel
theorem dX3_init_13 : decode cX3_init 13 = .ok (.putfield 15, 3) := by decide +kernel
theorem dX3_init_16 : decode cX3_init 16 = .ok (.aload_n 0, 1) := by decide +kernel
theorem dX3_init_17 : decode cX3_init 17 = .ok (.iconst 0, 1) := by decide +kernel
theorem dX3_init_18 : decode cX3_init 18 = .ok (.putfield 19, 3) := by decide +kernel
theorem dX3_init_21 : decode cX3_init 21 = .ok (.aload_n 0, 1) := by decide +kernel
theorem dX3_init_22 : decode cX3_init 22 = .ok (.lconst 0, 1) := by decide +kernel
theorem dX3_init_23 : decode cX3_init 23 = .ok (.putfield 22, 3) := by decide +kernel
theorem dX3_init_26 : decode cX3_init 26 = .ok (.return_, 1) := by decide +kernel
theorem dX3_make_0 : decode cX3_make 0 = .ok (.iconst 0, 1) := by decide +kernel
theorem dX3_make_1 : decode cX3_make 1 = .ok (.istore_n 3, 1) := by decide +kernel
theorem dX3_make_2 : decode cX3_make 2 = .ok (.iload_n 3, 1) := by decide +kernel
theorem dX3_make_3 : decode cX3_make 3 = .ok (.bipush 24, 2) := by decide +kernel
theorem dX3_make_5 : decode cX3_make 5 = .ok (.if_icmp .ge 95, 3) := by decide +kernel
theorem dX3_make_8 : decode cX3_make 8 = .ok (.aload_n 0, 1) := by decide +kernel
theorem dX3_make_9 : decode cX3_make 9 = .ok (.getfield 9, 3) := by decide +kernel
theorem dX3_make_12 : decode cX3_make 12 = .ok (.ifCond .eq 32, 3) := by decide +kernel
theorem dX3_make_15 : decode cX3_make 15 = .ok (.aload_n 0, 1) := by decide +kernel
theorem dX3_make_16 : decode cX3_make 16 = .ok (.invokevirtual 26, 3) := by decide +kernel
theorem dX3_make_19 : decode cX3_make 19 = .ok (.aload_n 0, 1) := by decide +kernel
theorem dX3_make_20 : decode cX3_make 20 = .ok (.aload_n 1, 1) := by decide +kernel
theorem dX3_make_21 : decode cX3_make 21 = .ok (.iconst 2, 1) := by decide +kernel
theorem dX3_make_22 : decode cX3_make 22 = .ok (.iload_n 3, 1) := by decide +kernel
theorem dX3_make_23 : decode cX3_make 23 = .ok (.imul, 1) := by decide +kernel
theorem dX3_make_24 : decode cX3_make 24 = .ok (.iaload, 1) := by decide +kernel
theorem dX3_make_25 : decode cX3_make 25 = .ok (.invokestatic 29, 3) := by decide +kernel
theorem dX3_make_28 : decode cX3_make 28 = .ok (.aload_n 1, 1) := by decide +kernel
theorem dX3_make_29 : decode cX3_make 29 = .ok (.iconst 2, 1) := by decide +kernel
theorem dX3_make_30 : decode cX3_make 30 = .ok (.iload_n 3, 1) := by decide +kernel
theorem dX3_make_31 : decode cX3_make 31 = .ok (.imul, 1) := by decide +kernel
theorem dX3_make_32 : decode cX3_make 32 = .ok (.iconst 1, 1) := by decide +kernel
theorem dX3_make_33 : decode cX3_make 33 = .ok (.iadd, 1) := by decide +kernel
theorem dX3_make_34 : decode cX3_make 34 = .ok (.iaload, 1) := by decide +kernel
theorem dX3_make_35 : decode cX3_make 35 = .ok (.invokestatic 29, 3) := by decide +kernel
theorem dX3_make_38 : decode cX3_make 38 = .ok (.invokestatic 35, 3) := by decide +kernel
theorem dX3_make_41 : decode cX3_make 41 = .ok (.invokevirtual 39, 3) := by decide +kernel
theorem dX3_make_44 : decode cX3_make 44 = .ok (.aload_n 2, 1) := by decide +kernel
theorem dX3_make_45 : decode cX3_make 45 = .ok (.iconst 2, 1) := by decide +kernel
theorem dX3_make_46 : decode cX3_make 46 = .ok (.iload_n 3, 1) := by decide +kernel
theorem dX3_make_47 : decode cX3_make 47 = .ok (.imul, 1) := by decide +kernel
theorem dX3_make_48 : decode cX3_make 48 = .ok (.aload_n 0, 1) := by decide +kernel
theorem dX3_make_49 : decode cX3_make 49 = .ok (.aload_n 0, 1) := by decide +kernel
theorem dX3_make_50 : decode cX3_make 50 = .ok (.aload_n 1, 1) := by decide +kernel
theorem dX3_make_51 : decode cX3_make 51 = .ok (.iconst 2, 1) := by decide +kernel
theorem dX3_make_52 : decode cX3_make 52 = .ok (.iload_n 3, 1) := by decide +kernel
theorem dX3_make_53 : decode cX3_make 53 = .ok (.imul, 1) := by decide +kernel
theorem dX3_make_54 : decode cX3_make 54 = .ok (.iaload, 1) := by decide +kernel
theorem dX3_make_55 : decode cX3_make 55 = .ok (.invokevirtual 43, 3) := by decide +kernel
theorem dX3_make_58 : decode cX3_make 58 = .ok (.invokevirtual 46, 3) := by decide +kernel
theorem dX3_make_61 : decode cX3_make 61 = .ok (.iastore, 1) := by decide +kernel
theorem dX3_make_62 : decode cX3_make 62 = .ok (.aload_n 2, 1) := by decide +kernel
theorem dX3_make_63 : decode cX3_make 63 = .ok (.iconst 2, 1) := by decide +kernel
theorem dX3_make_64 : decode cX3_make 64 = .ok (.iload_n 3, 1) := by decide +kernel
theorem dX3_make_65 : decode cX3_make 65 = .ok (.imul, 1) := by decide +kernel
theorem dX3_make_66 : decode cX3_make 66 = .ok (.iconst 1, 1) := by decide +kernel
theorem dX3_make_67 : decode cX3_make 67 = .ok (.iadd, 1) := by decide +kernel
theorem dX3_make_68 : decode cX3_make 68 = .ok (.aload_n 0, 1) := by decide +kernel
theorem dX3_make_69 : decode cX3_make 69 = .ok (.aload_n 0, 1) := by decide +kernel
theorem dX3_make_70 : decode cX3_make 70 = .ok (.aload_n 1, 1) := by decide +kernel
theorem dX3_make_71 : decode cX3_make 71 = .ok (.iconst 2, 1) := by decide +kernel
theorem dX3_make_72 : decode cX3_make 72 = .ok (.iload_n 3, 1) := by decide +kernel
theorem dX3_make_73 : decode cX3_make 73 = .ok (.imul, 1) := by decide +kernel
theorem dX3_make_74 : decode cX3_make 74 = .ok (.iconst 1, 1) := by decide +kernel
theorem dX3_make_75 : decode cX3_make 75 = .ok (.iadd, 1) := by decide +kernel
theorem dX3_make_76 : decode cX3_make 76 = .ok (.iaload, 1) := by decide +kernel
theorem dX3_make_77 : decode cX3_make 77 = .ok (.invokevirtual 43, 3) := by decide +kernel
theorem dX3_make_80 : decode cX3_make 80 = .ok (.invokevirtual 46, 3) := by decide +kernel
theorem dX3_make_83 : decode cX3_make 83 = .ok (.iastore, 1) := by decide +kernel
theorem dX3_make_84 : decode cX3_make 84 = .ok (.aload_n 0, 1) := by decide +kernel
theorem dX3_make_85 : decode cX3_make 85 = .ok (.dup, 1) := by decide +kernel
theorem dX3_make_86 : decode cX3_make 86 = .ok (.getfield 22, 3) := by decide +kernel
theorem dX3_make_89 : decode cX3_make 89 = .ok (.lconst 1, 1) := by decide +kernel
theorem dX3_make_90 : decode cX3_make 90 = .ok (.ladd, 1) := by decide +kernel
theorem dX3_make_91 : decode cX3_make 91 = .ok (.putfield 22, 3) := by decide +kernel
theorem dX3_make_94 : decode cX3_make 94 = .ok (.iinc 3 1, 3) := by decide +kernel
theorem dX3_make_97 : decode cX3_make 97 = .ok (.goto (-95), 3) := by decide +kernel
theorem dX3_make_100 : decode cX3_make 100 = .ok (.return_, 1) := by decide +kernel
theorem dX3_recover_0 : decode cX3_recover 0 = .ok (.aload_n 0, 1) := by decide +kernel
theorem dX3_recover_1 : decode cX3_recover 1 = .ok (.getfield 22, 3) := by decide +kernel
theorem dX3_recover_4 : decode cX3_recover 4 = .ok (.ldc2_w 49, 3) := by decide +kernel
theorem dX3_recover_7 : decode cX3_recover 7 = .ok (.lrem, 1) := by decide +kernel
theorem dX3_recover_8 : decode cX3_recover 8 = .ok (.lconst 0, 1) := by decide +kernel
theorem dX3_recover_9 : decode cX3_recover 9 = .ok (.lcmp, 1) := by decide +kernel
theorem dX3_recover_10 : decode cX3_recover 10 = .ok (.ifCond .ne 20, 3) := by decide +kernel
theorem dX3_recover_13 : decode cX3_recover 13 = .ok (.aload_n 0, 1) := by decide +kernel
theorem dX3_recover_14 : decode cX3_recover 14 = .ok (.sipush 4096, 3) := by decide +kernel
theorem dX3_recover_17 : decode cX3_recover 17 = .ok (.aload_n 0, 1) := by decide +kernel
theorem dX3_recover_18 : decode cX3_recover 18 = .ok (.getfield 15, 3) := by decide +kernel
theorem dX3_recover_21 : decode cX3_recover 21 = .ok (.bipush 16, 2) := by decide +kernel
theorem dX3_recover_23 : decode cX3_recover 23 = .ok (.iadd, 1) := by decide +kernel
theorem dX3_recover_24 : decode cX3_recover 24 = .ok (.invokestatic 51, 3) := by decide +kernel
theorem dX3_recover_27 : decode cX3_recover 27 = .ok (.putfield 15, 3) := by decide +kernel
theorem dX3_recover_30 : decode cX3_recover 30 = .ok (.return_, 1) := by decide +kernel
theorem dX3_yieldTo_0 : decode cX3_yieldTo 0 = .ok (.ldc2_w 54, 3) := by decide +kernel
theorem dX3_yieldTo_3 : decode cX3_yieldTo 3 = .ok (.lstore_n 2, 1) := by decide +kernel
theorem dX3_yieldTo_4 : decode cX3_yieldTo 4 = .ok (.iload_n 1, 1) := by decide +kernel
theorem dX3_yieldTo_5 : decode cX3_yieldTo 5 = .ok (.ifCond .le 25, 3) := by decide +kernel
theorem dX3_yieldTo_8 : decode cX3_yieldTo 8 = .ok (.iload_n 1, 1) := by decide +kernel
theorem dX3_yieldTo_9 : decode cX3_yieldTo 9 = .ok (.i2l, 1) := by decide +kernel
theorem dX3_yieldTo_10 : decode cX3_yieldTo 10 = .ok (.aload_n 0, 1) := by decide +kernel
theorem dX3_yieldTo_11 : decode cX3_yieldTo 11 = .ok (.getfield 15, 3) := by decide +kernel
theorem dX3_yieldTo_14 : decode cX3_yieldTo 14 = .ok (.i2l, 1) := by decide +kernel
theorem dX3_yieldTo_15 : decode cX3_yieldTo 15 = .ok (.lmul, 1) := by decide +kernel
theorem dX3_yieldTo_16 : decode cX3_yieldTo 16 = .ok (.lload_n 2, 1) := by decide +kernel
theorem dX3_yieldTo_17 : decode cX3_yieldTo 17 = .ok (.lcmp, 1) := by decide +kernel
theorem dX3_yieldTo_18 : decode cX3_yieldTo 18 = .ok (.ifCond .le 12, 3) := by decide +kernel
theorem dX3_yieldTo_21 : decode cX3_yieldTo 21 = .ok (.aload_n 0, 1) := by decide +kernel
theorem dX3_yieldTo_22 : decode cX3_yieldTo 22 = .ok (.lload_n 2, 1) := by decide +kernel
theorem dX3_yieldTo_23 : decode cX3_yieldTo 23 = .ok (.iload_n 1, 1) := by decide +kernel
theorem dX3_yieldTo_24 : decode cX3_yieldTo 24 = .ok (.i2l, 1) := by decide +kernel
theorem dX3_yieldTo_25 : decode cX3_yieldTo 25 = .ok (.ldiv, 1) := by decide +kernel
theorem dX3_yieldTo_26 : decode cX3_yieldTo 26 = .ok (.l2i, 1) := by decide +kernel
theorem dX3_yieldTo_27 : decode cX3_yieldTo 27 = .ok (.putfield 15, 3) := by decide +kernel
theorem dX3_yieldTo_30 : decode cX3_yieldTo 30 = .ok (.return_, 1) := by decide +kernel
theorem dX3_limited_0 : decode cX3_limited 0 = .ok (.aload_n 0, 1) := by decide +kernel
theorem dX3_limited_1 : decode cX3_limited 1 = .ok (.getfield 9, 3) := by decide +kernel
theorem dX3_limited_4 : decode cX3_limited 4 = .ok (.ifCond .eq 21, 3) := by decide +kernel
theorem dX3_limited_7 : decode cX3_limited 7 = .ok (.iload_n 1, 1) := by decide +kernel
theorem dX3_limited_8 : decode cX3_limited 8 = .ok (.i2l, 1) := by decide +kernel
theorem dX3_limited_9 : decode cX3_limited 9 = .ok (.aload_n 0, 1) := by decide +kernel
theorem dX3_limited_10 : decode cX3_limited 10 = .ok (.getfield 15, 3) := by decide +kernel
theorem dX3_limited_13 : decode cX3_limited 13 = .ok (.i2l, 1) := by decide +kernel
theorem dX3_limited_14 : decode cX3_limited 14 = .ok (.lmul, 1) := by decide +kernel
theorem dX3_limited_15 : decode cX3_limited 15 = .ok (.ldc2_w 56, 3) := by decide +kernel
theorem dX3_limited_18 : decode cX3_limited 18 = .ok (.invokestatic 58, 3) := by decide +kernel
theorem dX3_limited_21 : decode cX3_limited 21 = .ok (.l2i, 1) := by decide +kernel
theorem dX3_limited_22 : decode cX3_limited 22 = .ok (.goto 4, 3) := by decide +kernel
theorem dX3_limited_25 : decode cX3_limited 25 = .ok (.iload_n 1, 1) := by decide +kernel
theorem dX3_limited_26 : decode cX3_limited 26 = .ok (.ireturn, 1) := by decide +kernel
theorem dX3_cut_0 : decode cX3_cut 0 = .ok (.iload_n 1, 1) := by decide +kernel
theorem dX3_cut_1 : decode cX3_cut 1 = .ok (.invokestatic 62, 3) := by decide +kernel
theorem dX3_cut_4 : decode cX3_cut 4 = .ok (.ifCond .eq 5, 3) := by decide +kernel
theorem dX3_cut_7 : decode cX3_cut 7 = .ok (.iload_n 1, 1) := by decide +kernel
theorem dX3_cut_8 : decode cX3_cut 8 = .ok (.ireturn, 1) := by decide +kernel
theorem dX3_cut_9 : decode cX3_cut 9 = .ok (.aload_n 0, 1) := by decide +kernel
theorem dX3_cut_10 : decode cX3_cut 10 = .ok (.dup, 1) := by decide +kernel
theorem dX3_cut_11 : decode cX3_cut 11 = .ok (.getfield 19, 3) := by decide +kernel
theorem dX3_cut_14 : decode cX3_cut 14 = .ok (.iconst 1, 1) := by decide +kernel
theorem dX3_cut_15 : decode cX3_cut 15 = .ok (.iadd, 1) := by decide +kernel
theorem dX3_cut_16 : decode cX3_cut 16 = .ok (.putfield 19, 3) := by decide +kernel
theorem dX3_cut_19 : decode cX3_cut 19 = .ok (.iload_n 1, 1) := by decide +kernel
theorem dX3_cut_20 : decode cX3_cut 20 = .ok (.ifCond .ge 9, 3) := by decide +kernel
theorem dX3_cut_23 : decode cX3_cut 23 = .ok (.sipush (-32768), 3) := by decide +kernel
theorem dX3_cut_26 : decode cX3_cut 26 = .ok (.goto 6, 3) := by decide +kernel
theorem dX3_cut_29 : decode cX3_cut 29 = .ok (.sipush 32767, 3) := by decide +kernel
theorem dX3_cut_32 : decode cX3_cut 32 = .ok (.ireturn, 1) := by decide +kernel
theorem dX4_init_0 : decode cX4_init 0 = .ok (.aload_n 0, 1) := by decide +kernel
theorem dX4_init_1 : decode cX4_init 1 = .ok (.iload_n 3, 1) := by decide +kernel
theorem dX4_init_2 : decode cX4_init 2 = .ok (.iload 4, 2) := by decide +kernel
theorem dX4_init_4 : decode cX4_init 4 = .ok (.invokespecial 3, 3) := by decide +kernel
theorem dX4_init_7 : decode cX4_init 7 = .ok (.aload_n 0, 1) := by decide +kernel
theorem dX4_init_8 : decode cX4_init 8 = .ok (.new 9, 3) := by decide +kernel
theorem dX4_init_11 : decode cX4_init 11 = .ok (.dup, 1) := by decide +kernel
theorem dX4_init_12 : decode cX4_init 12 = .ok (.invokespecial 11, 3) := by decide +kernel
theorem dX4_init_15 : decode cX4_init 15 = .ok (.putfield 14, 3) := by decide +kernel
theorem dX4_init_18 : decode cX4_init 18 = .ok (.aload_n 0, 1) := by decide +kernel
theorem dX4_init_19 : decode cX4_init 19 = .ok (.new 9, 3) := by decide +kernel
theorem dX4_init_22 : decode cX4_init 22 = .ok (.dup, 1) := by decide +kernel
theorem dX4_init_23 : decode cX4_init 23 = .ok (.invokespecial 11, 3) := by decide +kernel
theorem dX4_init_26 : decode cX4_init 26 = .ok (.putfield 20, 3) := by decide +kernel
theorem dX4_init_29 : decode cX4_init 29 = .ok (.aload_n 0, 1) := by decide +kernel
theorem dX4_init_30 : decode cX4_init 30 = .ok (.lconst 0, 1) := by decide +kernel
theorem dX4_init_31 : decode cX4_init 31 = .ok (.putfield 23, 3) := by decide +kernel
theorem dX4_init_34 : decode cX4_init 34 = .ok (.aload_n 0, 1) := by decide +kernel
theorem dX4_init_35 : decode cX4_init 35 = .ok (.lconst 0, 1) := by decide +kernel
theorem dX4_init_36 : decode cX4_init 36 = .ok (.putfield 27, 3) := by decide +kernel
theorem dX4_init_39 : decode cX4_init 39 = .ok (.aload_n 0, 1) := by decide +kernel
theorem dX4_init_40 : decode cX4_init 40 = .ok (.new 30, 3) := by decide +kernel
theorem dX4_init_43 : decode cX4_init 43 = .ok (.dup, 1) := by decide +kernel
theorem dX4_init_44 : decode cX4_init 44 = .ok (.aload_n 1, 1) := by decide +kernel
theorem dX4_init_45 : decode cX4_init 45 = .ok (.ldc 32, 2) := by decide +kernel
theorem dX4_init_47 : decode cX4_init 47 = .ok (.iload_n 2, 1) := by decide +kernel
theorem dX4_init_48 : decode cX4_init 48 = .ok (.invokespecial 33, 3) := by decide +kernel
theorem dX4_init_51 : decode cX4_init 51 = .ok (.putfield 36, 3) := by decide +kernel
theorem dX4_init_54 : decode cX4_init 54 = .ok (.return_, 1) := by decide +kernel
theorem dX4_numbersNow_0 : decode cX4_numbersNow 0 = .ok (.aload_n 0, 1) := by decide +kernel
theorem dX4_numbersNow_1 : decode cX4_numbersNow 1 = .ok (.aload_n 0, 1) := by decide +kernel
theorem dX4_numbersNow_2 : decode cX4_numbersNow 2 = .ok (.getfield 20, 3) := by decide +kernel
theorem dX4_numbersNow_5 : decode cX4_numbersNow 5 = .ok (.getfield 40, 3) := by decide +kernel
theorem dX4_numbersNow_8 : decode cX4_numbersNow 8 = .ok (.aload_n 0, 1) := by decide +kernel
theorem dX4_numbersNow_9 : decode cX4_numbersNow 9 = .ok (.getfield 27, 3) := by decide +kernel
theorem dX4_numbersNow_12 : decode cX4_numbersNow 12 = .ok (.lsub, 1) := by decide +kernel
theorem dX4_numbersNow_13 : decode cX4_numbersNow 13 = .ok (.invokevirtual 43, 3) := by decide +kernel
theorem dX4_numbersNow_16 : decode cX4_numbersNow 16 = .ok (.ireturn, 1) := by decide +kernel
theorem dX4_place_0 : decode cX4_place 0 = .ok (.aload_n 0, 1) := by decide +kernel
theorem dX4_place_1 : decode cX4_place 1 = .ok (.getfield 27, 3) := by decide +kernel
theorem dX4_place_4 : decode cX4_place 4 = .ok (.lreturn, 1) := by decide +kernel
theorem dX4_capture_0 : decode cX4_capture 0 = .ok (.iconst 0, 1) := by decide +kernel
theorem dX4_capture_1 : decode cX4_capture 1 = .ok (.istore_n 2, 1) := by decide +kernel
theorem dX4_capture_2 : decode cX4_capture 2 = .ok (.iload_n 2, 1) := by decide +kernel
theorem dX4_capture_3 : decode cX4_capture 3 = .ok (.bipush 24, 2) := by decide +kernel
theorem dX4_capture_5 : decode cX4_capture 5 = .ok (.if_icmp .ge 28, 3) := by decide +kernel
theorem dX4_capture_8 : decode cX4_capture 8 = .ok (.aload_n 0, 1) := by decide +kernel
theorem dX4_capture_9 : decode cX4_capture 9 = .ok (.getfield 14, 3) := by decide +kernel
theorem dX4_capture_12 : decode cX4_capture 12 = .ok (.aload_n 1, 1) := by decide +kernel
theorem dX4_capture_13 : decode cX4_capture 13 = .ok (.iconst 2, 1) := by decide +kernel
theorem dX4_capture_14 : decode cX4_capture 14 = .ok (.iload_n 2, 1) := by decide +kernel
theorem dX4_capture_15 : decode cX4_capture 15 = .ok (.imul, 1) := by decide +kernel
theorem dX4_capture_16 : decode cX4_capture 16 = .ok (.iaload, 1) := by decide +kernel
theorem dX4_capture_17 : decode cX4_capture 17 = .ok (.aload_n 1, 1) := by decide +kernel
theorem dX4_capture_18 : decode cX4_capture 18 = .ok (.iconst 2, 1) := by decide +kernel
theorem dX4_capture_19 : decode cX4_capture 19 = .ok (.iload_n 2, 1) := by decide +kernel
theorem dX4_capture_20 : decode cX4_capture 20 = .ok (.imul, 1) := by decide +kernel
theorem dX4_capture_21 : decode cX4_capture 21 = .ok (.iconst 1, 1) := by decide +kernel
theorem dX4_capture_22 : decode cX4_capture 22 = .ok (.iadd, 1) := by decide +kernel
theorem dX4_capture_23 : decode cX4_capture 23 = .ok (.iaload, 1) := by decide +kernel
theorem dX4_capture_24 : decode cX4_capture 24 = .ok (.invokevirtual 47, 3) := by decide +kernel
theorem dX4_capture_27 : decode cX4_capture 27 = .ok (.iinc 2 1, 3) := by decide +kernel
theorem dX4_capture_30 : decode cX4_capture 30 = .ok (.goto (-28), 3) := by decide +kernel
theorem dX4_capture_33 : decode cX4_capture 33 = .ok (.aload_n 0, 1) := by decide +kernel
theorem dX4_capture_34 : decode cX4_capture 34 = .ok (.invokevirtual 50, 3) := by decide +kernel
theorem dX4_capture_37 : decode cX4_capture 37 = .ok (.istore_n 2, 1) := by decide +kernel
theorem dX4_capture_38 : decode cX4_capture 38 = .ok (.aload_n 0, 1) := by decide +kernel
theorem dX4_capture_39 : decode cX4_capture 39 = .ok (.getfield 20, 3) := by decide +kernel
theorem dX4_capture_42 : decode cX4_capture 42 = .ok (.getfield 40, 3) := by decide +kernel
theorem dX4_capture_45 : decode cX4_capture 45 = .ok (.aload_n 0, 1) := by decide +kernel
theorem dX4_capture_46 : decode cX4_capture 46 = .ok (.getfield 27, 3) := by decide +kernel
theorem dX4_capture_49 : decode cX4_capture 49 = .ok (.lsub, 1) := by decide +kernel
theorem dX4_capture_50 : decode cX4_capture 50 = .ok (.iload_n 2, 1) := by decide +kernel
theorem dX4_capture_51 : decode cX4_capture 51 = .ok (.i2l, 1) := by decide +kernel
theorem dX4_capture_52 : decode cX4_capture 52 = .ok (.ladd, 1) := by decide +kernel
theorem dX4_capture_53 : decode cX4_capture 53 = .ok (.ldc2_w 54, 3) := by decide +kernel
theorem dX4_capture_56 : decode cX4_capture 56 = .ok (.lcmp, 1) := by decide +kernel
theorem dX4_capture_57 : decode cX4_capture 57 = .ok (.ifCond .le 16, 3) := by decide +kernel
theorem dX4_capture_60 : decode cX4_capture 60 = .ok (.aload_n 0, 1) := by decide +kernel
theorem dX4_capture_61 : decode cX4_capture 61 = .ok (.dup, 1) := by decide +kernel
theorem dX4_capture_62 : decode cX4_capture 62 = .ok (.getfield 56, 3) := by decide +kernel
theorem dX4_capture_65 : decode cX4_capture 65 = .ok (.iconst 1, 1) := by decide +kernel
theorem dX4_capture_66 : decode cX4_capture 66 = .ok (.iadd, 1) := by decide +kernel
theorem dX4_capture_67 : decode cX4_capture 67 = .ok (.putfield 56, 3) := by decide +kernel
theorem dX4_capture_70 : decode cX4_capture 70 = .ok (.goto 8, 3) := by decide +kernel
theorem dX4_capture_73 : decode cX4_capture 73 = .ok (.aload_n 0, 1) := by decide +kernel
theorem dX4_capture_74 : decode cX4_capture 74 = .ok (.iload_n 2, 1) := by decide +kernel
theorem dX4_capture_75 : decode cX4_capture 75 = .ok (.invokevirtual 60, 3) := by decide +kernel
theorem dX4_capture_78 : decode cX4_capture 78 = .ok (.aload_n 0, 1) := by decide +kernel
theorem dX4_capture_79 : decode cX4_capture 79 = .ok (.dup, 1) := by decide +kernel
theorem dX4_capture_80 : decode cX4_capture 80 = .ok (.getfield 23, 3) := by decide +kernel
theorem dX4_capture_83 : decode cX4_capture 83 = .ok (.iload_n 2, 1) := by decide +kernel
theorem dX4_capture_84 : decode cX4_capture 84 = .ok (.i2l, 1) := by decide +kernel
theorem dX4_capture_85 : decode cX4_capture 85 = .ok (.ladd, 1) := by decide +kernel
theorem dX4_capture_86 : decode cX4_capture 86 = .ok (.putfield 23, 3) := by decide +kernel
theorem dX4_capture_89 : decode cX4_capture 89 = .ok (.return_, 1) := by decide +kernel
theorem dX4_nextNumber_0 : decode cX4_nextNumber 0 = .ok (.aload_n 0, 1) := by decide +kernel
theorem dX4_nextNumber_1 : decode cX4_nextNumber 1 = .ok (.getfield 20, 3) := by decide +kernel
theorem dX4_nextNumber_4 : decode cX4_nextNumber 4 = .ok (.aload_n 0, 1) := by decide +kernel
theorem dX4_nextNumber_5 : decode cX4_nextNumber 5 = .ok (.getfield 27, 3) := by decide +kernel
theorem dX4_nextNumber_8 : decode cX4_nextNumber 8 = .ok (.iconst 0, 1) := by decide +kernel
theorem dX4_nextNumber_9 : decode cX4_nextNumber 9 = .ok (.invokevirtual 64, 3) := by decide +kernel
theorem dX4_nextNumber_12 : decode cX4_nextNumber 12 = .ok (.istore_n 1, 1) := by decide +kernel
theorem dX4_nextNumber_13 : decode cX4_nextNumber 13 = .ok (.aload_n 0, 1) := by decide +kernel
theorem dX4_nextNumber_14 : decode cX4_nextNumber 14 = .ok (.getfield 20, 3) := by decide +kernel
theorem dX4_nextNumber_17 : decode cX4_nextNumber 17 = .ok (.aload_n 0, 1) := by decide +kernel
theorem dX4_nextNumber_18 : decode cX4_nextNumber 18 = .ok (.getfield 27, 3) := by decide +kernel
theorem dX4_nextNumber_21 : decode cX4_nextNumber 21 = .ok (.iconst 1, 1) := by decide +kernel
theorem dX4_nextNumber_22 : decode cX4_nextNumber 22 = .ok (.invokevirtual 64, 3) := by decide +kernel
theorem dX4_nextNumber_25 : decode cX4_nextNumber 25 = .ok (.istore_n 2, 1) := by decide +kernel
theorem dX4_nextNumber_26 : decode cX4_nextNumber 26 = .ok (.aload_n 0, 1) := by decide +kernel
theorem dX4_nextNumber_27 : decode cX4_nextNumber 27 = .ok (.getfield 68, 3) := by decide +kernel
theorem dX4_nextNumber_30 : decode cX4_nextNumber 30 = .ok (.iconst 1, 1) := by decide +kernel
theorem dX4_nextNumber_31 : decode cX4_nextNumber 31 = .ok (.if_icmp .ne 25, 3) := by decide +kernel
theorem dX4_nextNumber_34 : decode cX4_nextNumber 34 = .ok (.aload_n 0, 1) := by decide +kernel
theorem dX4_nextNumber_35 : decode cX4_nextNumber 35 = .ok (.dup, 1) := by decide +kernel
theorem dX4_nextNumber_36 : decode cX4_nextNumber 36 = .ok (.getfield 27, 3) := by decide +kernel
theorem dX4_nextNumber_39 : decode cX4_nextNumber 39 = .ok (.lconst 1, 1) := by decide +kernel
theorem dX4_nextNumber_40 : decode cX4_nextNumber 40 = .ok (.ladd, 1) := by decide +kernel
theorem dX4_nextNumber_41 : decode cX4_nextNumber 41 = .ok (.putfield 27, 3) := by decide +kernel
theorem dX4_nextNumber_44 : decode cX4_nextNumber 44 = .ok (.aload_n 0, 1) := by decide +kernel
theorem dX4_nextNumber_45 : decode cX4_nextNumber 45 = .ok (.iload_n 1, 1) := by decide +kernel
theorem dX4_nextNumber_46 : decode cX4_nextNumber 46 = .ok (.iload_n 2, 1) := by decide +kernel
theorem dX4_nextNumber_47 : decode cX4_nextNumber 47 = .ok (.iadd, 1) := by decide +kernel
theorem dX4_nextNumber_48 : decode cX4_nextNumber 48 = .ok (.iconst 2, 1) := by decide +kernel
theorem dX4_nextNumber_49 : decode cX4_nextNumber 49 = .ok (.invokestatic 71, 3) := by decide +kernel
theorem dX4_nextNumber_52 : decode cX4_nextNumber 52 = .ok (.invokevirtual 77, 3) := by decide +kernel
theorem dX4_nextNumber_55 : decode cX4_nextNumber 55 = .ok (.ireturn, 1) := by decide +kernel
theorem dX4_nextNumber_56 : decode cX4_nextNumber 56 = .ok (.aload_n 0, 1) := by decide +kernel
theorem dX4_nextNumber_57 : decode cX4_nextNumber 57 = .ok (.getfield 81, 3) := by decide +kernel
theorem dX4_nextNumber_60 : decode cX4_nextNumber 60 = .ok (.ifCond .eq 24, 3) := by decide +kernel
theorem dX4_nextNumber_63 : decode cX4_nextNumber 63 = .ok (.aload_n 0, 1) := by decide +kernel
theorem dX4_nextNumber_64 : decode cX4_nextNumber 64 = .ok (.iconst 0, 1) := by decide +kernel
theorem dX4_nextNumber_65 : decode cX4_nextNumber 65 = .ok (.putfield 81, 3) := by decide +kernel
theorem dX4_nextNumber_68 : decode cX4_nextNumber 68 = .ok (.aload_n 0, 1) := by decide +kernel
theorem dX4_nextNumber_69 : decode cX4_nextNumber 69 = .ok (.dup, 1) := by decide +kernel
theorem dX4_nextNumber_70 : decode cX4_nextNumber 70 = .ok (.getfield 27, 3) := by decide +kernel
theorem dX4_nextNumber_73 : decode cX4_nextNumber 73 = .ok (.lconst 1, 1) := by decide +kernel
theorem dX4_nextNumber_74 : decode cX4_nextNumber 74 = .ok (.ladd, 1) := by decide +kernel
theorem dX4_nextNumber_75 : decode cX4_nextNumber 75 = .ok (.putfield 27, 3) := by decide +kernel
theorem dX4_nextNumber_78 : decode cX4_nextNumber 78 = .ok (.aload_n 0, 1) := by decide +kernel
theorem dX4_nextNumber_79 : decode cX4_nextNumber 79 = .ok (.iload_n 2, 1) := by decide +kernel
theorem dX4_nextNumber_80 : decode cX4_nextNumber 80 = .ok (.invokevirtual 77, 3) := by decide +kernel
theorem dX4_nextNumber_83 : decode cX4_nextNumber 83 = .ok (.ireturn, 1) := by decide +kernel
theorem dX4_nextNumber_84 : decode cX4_nextNumber 84 = .ok (.aload_n 0, 1) := by decide +kernel
theorem dX4_nextNumber_85 : decode cX4_nextNumber 85 = .ok (.iconst 1, 1) := by decide +kernel
theorem dX4_nextNumber_86 : decode cX4_nextNumber 86 = .ok (.putfield 81, 3) := by decide +kernel
theorem dX4_nextNumber_89 : decode cX4_nextNumber 89 = .ok (.aload_n 0, 1) := by decide +kernel
theorem dX4_nextNumber_90 : decode cX4_nextNumber 90 = .ok (.iload_n 1, 1) := by decide +kernel
theorem dX4_nextNumber_91 : decode cX4_nextNumber 91 = .ok (.invokevirtual 77, 3) := by decide +kernel
theorem dX4_nextNumber_94 : decode cX4_nextNumber 94 = .ok (.ireturn, 1) := by decide +kernel
theorem dX4_freshFrames_0 : decode cX4_freshFrames 0 = .ok (.iconst 0, 1) := by decide +kernel
theorem dX4_freshFrames_1 : decode cX4_freshFrames 1 = .ok (.istore_n 1, 1) := by decide +kernel
theorem dX4_freshFrames_2 : decode cX4_freshFrames 2 = .ok (.iload_n 1, 1) := by decide +kernel
theorem dX4_freshFrames_3 : decode cX4_freshFrames 3 = .ok (.bipush 24, 2) := by decide +kernel
theorem dX4_freshFrames_5 : decode cX4_freshFrames 5 = .ok (.if_icmp .ge 34, 3) := by decide +kernel
theorem dX4_freshFrames_8 : decode cX4_freshFrames 8 = .ok (.aload_n 0, 1) := by decide +kernel
theorem dX4_freshFrames_9 : decode cX4_freshFrames 9 = .ok (.getfield 36, 3) := by decide +kernel
theorem dX4_freshFrames_12 : decode cX4_freshFrames 12 = .ok (.aload_n 0, 1) := by decide +kernel
theorem dX4_freshFrames_13 : decode cX4_freshFrames 13 = .ok (.getfield 23, 3) := by decide +kernel
theorem dX4_freshFrames_16 : decode cX4_freshFrames 16 = .ok (.iload_n 1, 1) := by decide +kernel
theorem dX4_freshFrames_17 : decode cX4_freshFrames 17 = .ok (.i2l, 1) := by decide +kernel
theorem dX4_freshFrames_18 : decode cX4_freshFrames 18 = .ok (.ladd, 1) := by decide +kernel
theorem dX4_freshFrames_19 : decode cX4_freshFrames 19 = .ok (.invokevirtual 85, 3) := by decide +kernel
theorem dX4_freshFrames_22 : decode cX4_freshFrames 22 = .ok (.aload_n 0, 1) := by decide +kernel
theorem dX4_freshFrames_23 : decode cX4_freshFrames 23 = .ok (.getfield 14, 3) := by decide +kernel
theorem dX4_freshFrames_26 : decode cX4_freshFrames 26 = .ok (.getfield 40, 3) := by decide +kernel
theorem dX4_freshFrames_29 : decode cX4_freshFrames 29 = .ok (.lcmp, 1) := by decide +kernel
theorem dX4_freshFrames_30 : decode cX4_freshFrames 30 = .ok (.ifCond .ge 9, 3) := by decide +kernel
theorem dX4_freshFrames_33 : decode cX4_freshFrames 33 = .ok (.iinc 1 1, 3) := by decide +kernel
theorem dX4_freshFrames_36 : decode cX4_freshFrames 36 = .ok (.goto (-34), 3) := by decide +kernel
theorem dX4_freshFrames_39 : decode cX4_freshFrames 39 = .ok (.iload_n 1, 1) := by decide +kernel
theorem dX4_freshFrames_40 : decode cX4_freshFrames 40 = .ok (.ireturn, 1) := by decide +kernel
theorem dX4_unlock_0 : decode cX4_unlock 0 = .ok (.iconst 0, 1) := by decide +kernel
theorem dX4_unlock_1 : decode cX4_unlock 1 = .ok (.istore_n 2, 1) := by decide +kernel
theorem dX4_unlock_2 : decode cX4_unlock 2 = .ok (.iload_n 2, 1) := by decide +kernel
theorem dX4_unlock_3 : decode cX4_unlock 3 = .ok (.iload_n 1, 1) := by decide +kernel
theorem dX4_unlock_4 : decode cX4_unlock 4 = .ok (.if_icmp .ge 54, 3) := by decide +kernel
theorem dX4_unlock_7 : decode cX4_unlock 7 = .ok (.aload_n 0, 1) := by decide +kernel
theorem dX4_unlock_8 : decode cX4_unlock 8 = .ok (.getfield 20, 3) := by decide +kernel
theorem dX4_unlock_11 : decode cX4_unlock 11 = .ok (.aload_n 0, 1) := by decide +kernel
theorem dX4_unlock_12 : decode cX4_unlock 12 = .ok (.getfield 36, 3) := by decide +kernel
theorem dX4_unlock_15 : decode cX4_unlock 15 = .ok (.aload_n 0, 1) := by decide +kernel
theorem dX4_unlock_16 : decode cX4_unlock 16 = .ok (.getfield 14, 3) := by decide +kernel
theorem dX4_unlock_19 : decode cX4_unlock 19 = .ok (.aload_n 0, 1) := by decide +kernel
theorem dX4_unlock_20 : decode cX4_unlock 20 = .ok (.getfield 23, 3) := by decide +kernel
theorem dX4_unlock_23 : decode cX4_unlock 23 = .ok (.iload_n 2, 1) := by decide +kernel
theorem dX4_unlock_24 : decode cX4_unlock 24 = .ok (.i2l, 1) := by decide +kernel
theorem dX4_unlock_25 : decode cX4_unlock 25 = .ok (.ladd, 1) := by decide +kernel
theorem dX4_unlock_26 : decode cX4_unlock 26 = .ok (.iconst 0, 1) := by decide +kernel
theorem dX4_unlock_27 : decode cX4_unlock 27 = .ok (.invokevirtual 89, 3) := by decide +kernel
theorem dX4_unlock_30 : decode cX4_unlock 30 = .ok (.aload_n 0, 1) := by decide +kernel
theorem dX4_unlock_31 : decode cX4_unlock 31 = .ok (.getfield 36, 3) := by decide +kernel
theorem dX4_unlock_34 : decode cX4_unlock 34 = .ok (.aload_n 0, 1) := by decide +kernel
theorem dX4_unlock_35 : decode cX4_unlock 35 = .ok (.getfield 14, 3) := by decide +kernel
theorem dX4_unlock_38 : decode cX4_unlock 38 = .ok (.aload_n 0, 1) := by decide +kernel
theorem dX4_unlock_39 : decode cX4_unlock 39 = .ok (.getfield 23, 3) := by decide +kernel
theorem dX4_unlock_42 : decode cX4_unlock 42 = .ok (.iload_n 2, 1) := by decide +kernel
theorem dX4_unlock_43 : decode cX4_unlock 43 = .ok (.i2l, 1) := by decide +kernel
theorem dX4_unlock_44 : decode cX4_unlock 44 = .ok (.ladd, 1) := by decide +kernel
theorem dX4_unlock_45 : decode cX4_unlock 45 = .ok (.iconst 1, 1) := by decide +kernel
theorem dX4_unlock_46 : decode cX4_unlock 46 = .ok (.invokevirtual 89, 3) := by decide +kernel
theorem dX4_unlock_49 : decode cX4_unlock 49 = .ok (.invokevirtual 47, 3) := by decide +kernel
theorem dX4_unlock_52 : decode cX4_unlock 52 = .ok (.iinc 2 1, 3) := by decide +kernel
theorem dX4_unlock_55 : decode cX4_unlock 55 = .ok (.goto (-53), 3) := by decide +kernel
theorem dX4_unlock_58 : decode cX4_unlock 58 = .ok (.return_, 1) := by decide +kernel
theorem dX5_init_0 : decode cX5_init 0 = .ok (.aload_n 0, 1) := by decide +kernel
theorem dX5_init_1 : decode cX5_init 1 = .ok (.iload_n 3, 1) := by decide +kernel
theorem dX5_init_2 : decode cX5_init 2 = .ok (.iload 4, 2) := by decide +kernel
theorem dX5_init_4 : decode cX5_init 4 = .ok (.invokespecial 3, 3) := by decide +kernel
theorem dX5_init_7 : decode cX5_init 7 = .ok (.aload_n 0, 1) := by decide +kernel
theorem dX5_init_8 : decode cX5_init 8 = .ok (.new 9, 3) := by decide +kernel
theorem dX5_init_11 : decode cX5_init 11 = .ok (.dup, 1) := by decide +kernel
theorem dX5_init_12 : decode cX5_init 12 = .ok (.invokespecial 11, 3) := by decide +kernel
theorem dX5_init_15 : decode cX5_init 15 = .ok (.putfield 14, 3) := by decide +kernel
theorem dX5_init_18 : decode cX5_init 18 = .ok (.aload_n 0, 1) := by decide +kernel
theorem dX5_init_19 : decode cX5_init 19 = .ok (.iconst 4, 1) := by decide +kernel
theorem dX5_init_20 : decode cX5_init 20 = .ok (.newarray .int, 2) := by decide +kernel
theorem dX5_init_22 : decode cX5_init 22 = .ok (.putfield 20, 3) := by decide +kernel
theorem dX5_init_25 : decode cX5_init 25 = .ok (.aload_n 0, 1) := by decide +kernel
theorem dX5_init_26 : decode cX5_init 26 = .ok (.sipush 256, 3) := by decide +kernel
theorem dX5_init_29 : decode cX5_init 29 = .ok (.putfield 24, 3) := by decide +kernel
theorem dX5_init_32 : decode cX5_init 32 = .ok (.aload_n 0, 1) := by decide +kernel
theorem dX5_init_33 : decode cX5_init 33 = .ok (.iconst 0, 1) := by decide +kernel
theorem dX5_init_34 : decode cX5_init 34 = .ok (.putfield 28, 3) := by decide +kernel
theorem dX5_init_37 : decode cX5_init 37 = .ok (.aload_n 0, 1) := by decide +kernel
theorem dX5_init_38 : decode cX5_init 38 = .ok (.iconst 0, 1) := by decide +kernel
theorem dX5_init_39 : decode cX5_init 39 = .ok (.putfield 31, 3) := by decide +kernel
theorem dX5_init_42 : decode cX5_init 42 = .ok (.aload_n 0, 1) := by decide +kernel
theorem dX5_init_43 : decode cX5_init 43 = .ok (.iconst 0, 1) := by decide +kernel
theorem dX5_init_44 : decode cX5_init 44 = .ok (.putfield 34, 3) := by decide +kernel
theorem dX5_init_47 : decode cX5_init 47 = .ok (.aload_n 0, 1) := by decide +kernel
theorem dX5_init_48 : decode cX5_init 48 = .ok (.lconst 0, 1) := by decide +kernel
theorem dX5_init_49 : decode cX5_init 49 = .ok (.putfield 37, 3) := by decide +kernel
theorem dX5_init_52 : decode cX5_init 52 = .ok (.aload_n 0, 1) := by decide +kernel
theorem dX5_init_53 : decode cX5_init 53 = .ok (.lconst 0, 1) := by decide +kernel
theorem dX5_init_54 : decode cX5_init 54 = .ok (.putfield 41, 3) := by decide +kernel
theorem dX5_init_57 : decode cX5_init 57 = .ok (.aload_n 0, 1) := by decide +kernel
theorem dX5_init_58 : decode cX5_init 58 = .ok (.lconst 0, 1) := by decide +kernel
theorem dX5_init_59 : decode cX5_init 59 = .ok (.putfield 44, 3) := by decide +kernel
theorem dX5_init_62 : decode cX5_init 62 = .ok (.aload_n 0, 1) := by decide +kernel
theorem dX5_init_63 : decode cX5_init 63 = .ok (.new 47, 3) := by decide +kernel
theorem dX5_init_66 : decode cX5_init 66 = .ok (.dup, 1) := by decide +kernel
theorem dX5_init_67 : decode cX5_init 67 = .ok (.aload_n 1, 1) := by decide +kernel
theorem dX5_init_68 : decode cX5_init 68 = .ok (.iload_n 2, 1) := by decide +kernel
theorem dX5_init_69 : decode cX5_init 69 = .ok (.ldc 49, 2) := by decide +kernel
theorem dX5_init_71 : decode cX5_init 71 = .ok (.invokespecial 50, 3) := by decide +kernel
theorem dX5_init_74 : decode cX5_init 74 = .ok (.putfield 53, 3) := by decide +kernel
theorem dX5_init_77 : decode cX5_init 77 = .ok (.return_, 1) := by decide +kernel
theorem dX5_isEnding_0 : decode cX5_isEnding 0 = .ok (.aload_n 0, 1) := by decide +kernel
theorem dX5_isEnding_1 : decode cX5_isEnding 1 = .ok (.getfield 57, 3) := by decide +kernel
theorem dX5_isEnding_4 : decode cX5_isEnding 4 = .ok (.iconst 3, 1) := by decide +kernel
theorem dX5_isEnding_5 : decode cX5_isEnding 5 = .ok (.if_icmp .eq 11, 3) := by decide +kernel
theorem dX5_isEnding_8 : decode cX5_isEnding 8 = .ok (.aload_n 0, 1) := by decide +kernel
theorem dX5_isEnding_9 : decode cX5_isEnding 9 = .ok (.getfield 57, 3) := by decide +kernel
theorem dX5_isEnding_12 : decode cX5_isEnding 12 = .ok (.iconst 4, 1) := by decide +kernel
theorem dX5_isEnding_13 : decode cX5_isEnding 13 = .ok (.if_icmp .ne 7, 3) := by decide +kernel
theorem dX5_isEnding_16 : decode cX5_isEnding 16 = .ok (.iconst 1, 1) := by decide +kernel
theorem dX5_isEnding_17 : decode cX5_isEnding 17 = .ok (.goto 4, 3) := by decide +kernel
theorem dX5_isEnding_20 : decode cX5_isEnding 20 = .ok (.iconst 0, 1) := by decide +kernel
theorem dX5_isEnding_21 : decode cX5_isEnding 21 = .ok (.ireturn, 1) := by decide +kernel
theorem dX5_numbersNow_0 : decode cX5_numbersNow 0 = .ok (.aload_n 0, 1) := by decide +kernel
theorem dX5_numbersNow_1 : decode cX5_numbersNow 1 = .ok (.invokevirtual 60, 3) := by decide +kernel
theorem dX5_numbersNow_4 : decode cX5_numbersNow 4 = .ok (.ifCond .eq 7, 3) := by decide +kernel
theorem dX5_numbersNow_7 : decode cX5_numbersNow 7 = .ok (.iconst 0, 1) := by decide +kernel
theorem dX5_numbersNow_8 : decode cX5_numbersNow 8 = .ok (.goto 11, 3) := by decide +kernel
theorem dX5_numbersNow_11 : decode cX5_numbersNow 11 = .ok (.aload_n 0, 1) := by decide +kernel
theorem dX5_numbersNow_12 : decode cX5_numbersNow 12 = .ok (.aload_n 0, 1) := by decide +kernel
theorem dX5_numbersNow_13 : decode cX5_numbersNow 13 = .ok (.invokevirtual 64, 3) := by decide +kernel
theorem dX5_numbersNow_16 : decode cX5_numbersNow 16 = .ok (.invokevirtual 68, 3) := by decide +kernel
theorem dX5_numbersNow_19 : decode cX5_numbersNow 19 = .ok (.ireturn, 1) := by decide +kernel
theorem dX5_place_0 : decode cX5_place 0 = .ok (.aload_n 0, 1) := by decide +kernel
theorem dX5_place_1 : decode cX5_place 1 = .ok (.getfield 53, 3) := by decide +kernel
theorem dX5_place_4 : decode cX5_place 4 = .ok (.aload_n 0, 1) := by decide +kernel
theorem dX5_place_5 : decode cX5_place 5 = .ok (.getfield 41, 3) := by decide +kernel
theorem dX5_place_8 : decode cX5_place 8 = .ok (.invokevirtual 72, 3) := by decide +kernel
theorem dX5_place_11 : decode cX5_place 11 = .ok (.lreturn, 1) := by decide +kernel
theorem dX5_accept_0 : decode cX5_accept 0 = .ok (.aload_n 0, 1) := by decide +kernel
theorem dX5_accept_1 : decode cX5_accept 1 = .ok (.invokevirtual 64, 3) := by decide +kernel
theorem dX5_accept_4 : decode cX5_accept 4 = .ok (.lconst 1, 1) := by decide +kernel
theorem dX5_accept_5 : decode cX5_accept 5 = .ok (.lcmp, 1) := by decide +kernel
theorem dX5_accept_6 : decode cX5_accept 6 = .ok (.ifCond .ge 5, 3) := by decide +kernel
theorem dX5_accept_9 : decode cX5_accept 9 = .ok (.iconst 0, 1) := by decide +kernel
theorem dX5_accept_10 : decode cX5_accept 10 = .ok (.ireturn, 1) := by decide +kernel
theorem dX5_accept_11 : decode cX5_accept 11 = .ok (.aload_n 0, 1) := by decide +kernel
theorem dX5_accept_12 : decode cX5_accept 12 = .ok (.iload_n 1, 1) := by decide +kernel
theorem dX5_accept_13 : decode cX5_accept 13 = .ok (.invokevirtual 76, 3) := by decide +kernel
theorem dX5_accept_16 : decode cX5_accept 16 = .ok (.istore_n 2, 1) := by decide +kernel
theorem dX5_accept_17 : decode cX5_accept 17 = .ok (.aload_n 0, 1) := by decide +kernel
theorem dX5_accept_18 : decode cX5_accept 18 = .ok (.getfield 80, 3) := by decide +kernel
theorem dX5_accept_21 : decode cX5_accept 21 = .ok (.iconst 1, 1) := by decide +kernel
theorem dX5_accept_22 : decode cX5_accept 22 = .ok (.if_icmp .ne 15, 3) := by decide +kernel
theorem dX5_accept_25 : decode cX5_accept 25 = .ok (.aload_n 0, 1) := by decide +kernel
theorem dX5_accept_26 : decode cX5_accept 26 = .ok (.getfield 14, 3) := by decide +kernel
theorem dX5_accept_29 : decode cX5_accept 29 = .ok (.iload_n 2, 1) := by decide +kernel
theorem dX5_accept_30 : decode cX5_accept 30 = .ok (.iload_n 2, 1) := by decide +kernel
theorem dX5_accept_31 : decode cX5_accept 31 = .ok (.invokevirtual 83, 3) := by decide +kernel
theorem dX5_accept_34 : decode cX5_accept 34 = .ok (.goto 40, 3) := by decide +kernel
theorem dX5_accept_37 : decode cX5_accept 37 = .ok (.aload_n 0, 1) := by decide +kernel
theorem dX5_accept_38 : decode cX5_accept 38 = .ok (.getfield 86, 3) := by decide +kernel
theorem dX5_accept_41 : decode cX5_accept 41 = .ok (.ifCond .eq 23, 3) := by decide +kernel
theorem dX5_accept_44 : decode cX5_accept 44 = .ok (.aload_n 0, 1) := by decide +kernel
theorem dX5_accept_45 : decode cX5_accept 45 = .ok (.getfield 14, 3) := by decide +kernel
theorem dX5_accept_48 : decode cX5_accept 48 = .ok (.aload_n 0, 1) := by decide +kernel
theorem dX5_accept_49 : decode cX5_accept 49 = .ok (.getfield 28, 3) := by decide +kernel
theorem dX5_accept_52 : decode cX5_accept 52 = .ok (.iload_n 2, 1) := by decide +kernel
theorem dX5_accept_53 : decode cX5_accept 53 = .ok (.invokevirtual 83, 3) := by decide +kernel
theorem dX5_accept_56 : decode cX5_accept 56 = .ok (.aload_n 0, 1) := by decide +kernel
theorem dX5_accept_57 : decode cX5_accept 57 = .ok (.iconst 0, 1) := by decide +kernel
theorem dX5_accept_58 : decode cX5_accept 58 = .ok (.putfield 86, 3) := by decide +kernel
theorem dX5_accept_61 : decode cX5_accept 61 = .ok (.goto 13, 3) := by decide +kernel
theorem dX5_accept_64 : decode cX5_accept 64 = .ok (.aload_n 0, 1) := by decide +kernel
theorem dX5_accept_65 : decode cX5_accept 65 = .ok (.iload_n 2, 1) := by decide +kernel
theorem dX5_accept_66 : decode cX5_accept 66 = .ok (.putfield 28, 3) := by decide +kernel
theorem dX5_accept_69 : decode cX5_accept 69 = .ok (.aload_n 0, 1) := by decide +kernel
theorem dX5_accept_70 : decode cX5_accept 70 = .ok (.iconst 1, 1) := by decide +kernel
theorem dX5_accept_71 : decode cX5_accept 71 = .ok (.putfield 86, 3) := by decide +kernel
theorem dX5_accept_74 : decode cX5_accept 74 = .ok (.iconst 1, 1) := by decide +kernel
theorem dX5_accept_75 : decode cX5_accept 75 = .ok (.ireturn, 1) := by decide +kernel
theorem dX5_periodsWritten_0 : decode cX5_periodsWritten 0 = .ok (.iconst 0, 1) := by decide +kernel
theorem dX5_periodsWritten_1 : decode cX5_periodsWritten 1 = .ok (.istore_n 1, 1) := by decide +kernel
theorem dX5_periodsWritten_2 : decode cX5_periodsWritten 2 = .ok (.iload_n 1, 1) := by decide +kernel
theorem dX5_periodsWritten_3 : decode cX5_periodsWritten 3 = .ok (.sipush 200, 3) := by decide +kernel
theorem dX5_periodsWritten_6 : decode cX5_periodsWritten 6 = .ok (.if_icmp .ge 19, 3) := by decide +kernel
theorem dX5_periodsWritten_9 : decode cX5_periodsWritten 9 = .ok (.aload_n 0, 1) := by decide +kernel
theorem dX5_periodsWritten_10 : decode cX5_periodsWritten 10 = .ok (.iload_n 1, 1) := by decide +kernel
theorem dX5_periodsWritten_11 : decode cX5_periodsWritten 11 = .ok (.iconst 1, 1) := by decide +kernel
theorem dX5_periodsWritten_12 : decode cX5_periodsWritten 12 = .ok (.iadd, 1) := by decide +kernel
theorem dX5_periodsWritten_13 : decode cX5_periodsWritten 13 = .ok (.invokevirtual 90, 3) := by decide +kernel
theorem dX5_periodsWritten_16 : decode cX5_periodsWritten 16 = .ok (.ifCond .eq 9, 3) := by decide +kernel
theorem dX5_periodsWritten_19 : decode cX5_periodsWritten 19 = .ok (.iinc 1 1, 3) := by decide +kernel
theorem dX5_periodsWritten_22 : decode cX5_periodsWritten 22 = .ok (.goto (-20), 3) := by decide +kernel
theorem dX5_periodsWritten_25 : decode cX5_periodsWritten 25 = .ok (.iload_n 1, 1) := by decide +kernel
theorem dX5_periodsWritten_26 : decode cX5_periodsWritten 26 = .ok (.ireturn, 1) := by decide +kernel
theorem dX5_give_0 : decode cX5_give 0 = .ok (.aload_n 0, 1) := by decide +kernel
theorem dX5_give_1 : decode cX5_give 1 = .ok (.getfield 57, 3) := by decide +kernel
theorem dX5_give_4 : decode cX5_give 4 = .ok (.iconst 3, 1) := by decide +kernel
theorem dX5_give_5 : decode cX5_give 5 = .ok (.if_icmp .eq 19, 3) := by decide +kernel
theorem dX5_give_8 : decode cX5_give 8 = .ok (.aload_n 0, 1) := by decide +kernel
theorem dX5_give_9 : decode cX5_give 9 = .ok (.getfield 57, 3) := by decide +kernel
theorem dX5_give_12 : decode cX5_give 12 = .ok (.iconst 1, 1) := by decide +kernel
theorem dX5_give_13 : decode cX5_give 13 = .ok (.if_icmp .ne 15, 3) := by decide +kernel
theorem dX5_give_16 : decode cX5_give 16 = .ok (.aload_n 0, 1) := by decide +kernel
theorem dX5_give_17 : decode cX5_give 17 = .ok (.iconst 1, 1) := by decide +kernel
theorem dX5_give_18 : decode cX5_give 18 = .ok (.invokevirtual 90, 3) := by decide +kernel
theorem dX5_give_21 : decode cX5_give 21 = .ok (.ifCond .eq 7, 3) := by decide +kernel
theorem dX5_give_24 : decode cX5_give 24 = .ok (.iconst 1, 1) := by decide +kernel
theorem dX5_give_25 : decode cX5_give 25 = .ok (.goto 4, 3) := by decide +kernel
theorem dX5_give_28 : decode cX5_give 28 = .ok (.iconst 0, 1) := by decide +kernel
theorem dX5_give_29 : decode cX5_give 29 = .ok (.istore_n 3, 1) := by decide +kernel
theorem dX5_give_30 : decode cX5_give 30 = .ok (.iload_n 3, 1) := by decide +kernel
theorem dX5_give_31 : decode cX5_give 31 = .ok (.ifCond .eq 11, 3) := by decide +kernel
theorem dX5_give_34 : decode cX5_give 34 = .ok (.aload_n 0, 1) := by decide +kernel
theorem dX5_give_35 : decode cX5_give 35 = .ok (.aload_n 1, 1) := by decide +kernel
theorem dX5_give_36 : decode cX5_give 36 = .ok (.invokevirtual 94, 3) := by decide +kernel
theorem dX5_give_39 : decode cX5_give 39 = .ok (.goto 24, 3) := by decide +kernel
theorem dX5_give_42 : decode cX5_give 42 = .ok (.aload_n 0, 1) := by decide +kernel
theorem dX5_give_43 : decode cX5_give 43 = .ok (.getfield 57, 3) := by decide +kernel
theorem dX5_give_46 : decode cX5_give 46 = .ok (.iconst 1, 1) := by decide +kernel
theorem dX5_give_47 : decode cX5_give 47 = .ok (.if_icmp .ne 11, 3) := by decide +kernel
theorem dX5_give_50 : decode cX5_give 50 = .ok (.aload_n 0, 1) := by decide +kernel
theorem dX5_give_51 : decode cX5_give 51 = .ok (.aload_n 1, 1) := by decide +kernel
theorem dX5_give_52 : decode cX5_give 52 = .ok (.invokevirtual 98, 3) := by decide +kernel
theorem dX5_give_55 : decode cX5_give 55 = .ok (.goto 8, 3) := by decide +kernel
theorem dX5_give_58 : decode cX5_give 58 = .ok (.aload_n 1, 1) := by decide +kernel
theorem dX5_give_59 : decode cX5_give 59 = .ok (.iconst 0, 1) := by decide +kernel
theorem dX5_give_60 : decode cX5_give 60 = .ok (.invokestatic 101, 3) := by decide +kernel
theorem dX5_give_63 : decode cX5_give 63 = .ok (.aload_n 0, 1) := by decide +kernel
theorem dX5_give_64 : decode cX5_give 64 = .ok (.getfield 20, 3) := by decide +kernel
theorem dX5_give_67 : decode cX5_give 67 = .ok (.iload_n 2, 1) := by decide +kernel
theorem dX5_give_68 : decode cX5_give 68 = .ok (.iload_n 3, 1) := by decide +kernel
theorem dX5_give_69 : decode cX5_give 69 = .ok (.ifCond .eq 8, 3) := by decide +kernel
theorem dX5_give_72 : decode cX5_give 72 = .ok (.bipush 24, 2) := by decide +kernel
theorem dX5_give_74 : decode cX5_give 74 = .ok (.goto 4, 3) := by decide +kernel
theorem dX5_give_77 : decode cX5_give 77 = .ok (.iconst 0, 1) := by decide +kernel
theorem dX5_give_78 : decode cX5_give 78 = .ok (.iastore, 1) := by decide +kernel
theorem dX5_give_79 : decode cX5_give 79 = .ok (.aload_n 0, 1) := by decide +kernel
theorem dX5_give_80 : decode cX5_give 80 = .ok (.getfield 57, 3) := by decide +kernel
theorem dX5_give_83 : decode cX5_give 83 = .ok (.iconst 3, 1) := by decide +kernel
theorem dX5_give_84 : decode cX5_give 84 = .ok (.if_icmp .ne 15, 3) := by decide +kernel
theorem dX5_give_87 : decode cX5_give 87 = .ok (.aload_n 0, 1) := by decide +kernel
theorem dX5_give_88 : decode cX5_give 88 = .ok (.invokevirtual 107, 3) := by decide +kernel
theorem dX5_give_91 : decode cX5_give 91 = .ok (.ifCond .eq 8, 3) := by decide +kernel
theorem dX5_give_94 : decode cX5_give 94 = .ok (.aload_n 0, 1) := by decide +kernel
theorem dX5_give_95 : decode cX5_give 95 = .ok (.iconst 4, 1) := by decide +kernel
theorem dX5_give_96 : decode cX5_give 96 = .ok (.putfield 57, 3) := by decide +kernel
theorem dX5_give_99 : decode cX5_give 99 = .ok (.aload_n 0, 1) := by decide +kernel
theorem dX5_give_100 : decode cX5_give 100 = .ok (.aload_n 1, 1) := by decide +kernel
theorem dX5_give_101 : decode cX5_give 101 = .ok (.invokestatic 110, 3) := by decide +kernel
theorem dX5_give_104 : decode cX5_give 104 = .ok (.putfield 44, 3) := by decide +kernel
theorem dX5_give_107 : decode cX5_give 107 = .ok (.return_, 1) := by decide +kernel
theorem dX5_addLoud_0 : decode cX5_addLoud 0 = .ok (.iconst 0, 1) := by decide +kernel
theorem dX5_addLoud_1 : decode cX5_addLoud 1 = .ok (.istore_n 3, 1) := by decide +kernel
theorem dX5_addLoud_2 : decode cX5_addLoud 2 = .ok (.iload_n 3, 1) := by decide +kernel
theorem dX5_addLoud_3 : decode cX5_addLoud 3 = .ok (.bipush 48, 2) := by decide +kernel
theorem dX5_addLoud_5 : decode cX5_addLoud 5 = .ok (.if_icmp .ge 29, 3) := by decide +kernel
theorem dX5_addLoud_8 : decode cX5_addLoud 8 = .ok (.aload_n 2, 1) := by decide +kernel
theorem dX5_addLoud_9 : decode cX5_addLoud 9 = .ok (.iload_n 3, 1) := by decide +kernel
theorem dX5_addLoud_10 : decode cX5_addLoud 10 = .ok (.dup2, 1) := by decide +kernel
theorem dX5_addLoud_11 : decode cX5_addLoud 11 = .ok (.iaload, 1) := by decide +kernel
theorem dX5_addLoud_12 : decode cX5_addLoud 12 = .ok (.aload_n 1, 1) := by decide +kernel
theorem dX5_addLoud_13 : decode cX5_addLoud 13 = .ok (.iload_n 3, 1) := by decide +kernel
theorem dX5_addLoud_14 : decode cX5_addLoud 14 = .ok (.iaload, 1) := by decide +kernel
theorem dX5_addLoud_15 : decode cX5_addLoud 15 = .ok (.aload_n 0, 1) := by decide +kernel
theorem dX5_addLoud_16 : decode cX5_addLoud 16 = .ok (.getfield 24, 3) := by decide +kernel
theorem dX5_addLoud_19 : decode cX5_addLoud 19 = .ok (.imul, 1) := by decide +kernel
theorem dX5_addLoud_20 : decode cX5_addLoud 20 = .ok (.sipush 256, 3) := by decide +kernel
theorem dX5_addLoud_23 : decode cX5_addLoud 23 = .ok (.invokestatic 114, 3) := by decide +kernel
theorem dX5_addLoud_26 : decode cX5_addLoud 26 = .ok (.iadd, 1) := by decide +kernel
theorem dX5_addLoud_27 : decode cX5_addLoud 27 = .ok (.iastore, 1) := by decide +kernel
theorem dX5_addLoud_28 : decode cX5_addLoud 28 = .ok (.iinc 3 1, 3) := by decide +kernel
theorem dX5_addLoud_31 : decode cX5_addLoud 31 = .ok (.goto (-29), 3) := by decide +kernel
theorem dX5_addLoud_34 : decode cX5_addLoud 34 = .ok (.return_, 1) := by decide +kernel
theorem dX5_markHeard_0 : decode cX5_markHeard 0 = .ok (.aload_n 0, 1) := by decide +kernel
theorem dX5_markHeard_1 : decode cX5_markHeard 1 = .ok (.dup, 1) := by decide +kernel
theorem dX5_markHeard_2 : decode cX5_markHeard 2 = .ok (.getfield 41, 3) := by decide +kernel
theorem dX5_markHeard_5 : decode cX5_markHeard 5 = .ok (.aload_n 0, 1) := by decide +kernel
theorem dX5_markHeard_6 : decode cX5_markHeard 6 = .ok (.getfield 20, 3) := by decide +kernel
theorem dX5_markHeard_9 : decode cX5_markHeard 9 = .ok (.iload_n 1, 1) := by decide +kernel
theorem dX5_markHeard_10 : decode cX5_markHeard 10 = .ok (.iaload, 1) := by decide +kernel
theorem dX5_markHeard_11 : decode cX5_markHeard 11 = .ok (.i2l, 1) := by decide +kernel
theorem dX5_markHeard_12 : decode cX5_markHeard 12 = .ok (.ladd, 1) := by decide +kernel
theorem dX5_markHeard_13 : decode cX5_markHeard 13 = .ok (.putfield 41, 3) := by decide +kernel
theorem dX5_markHeard_16 : decode cX5_markHeard 16 = .ok (.return_, 1) := by decide +kernel
theorem dX5_freeFrames_0 : decode cX5_freeFrames 0 = .ok (.ldc2_w 120, 3) := by decide +kernel
theorem dX5_freeFrames_3 : decode cX5_freeFrames 3 = .ok (.aload_n 0, 1) := by decide +kernel
theorem dX5_freeFrames_4 : decode cX5_freeFrames 4 = .ok (.getfield 14, 3) := by decide +kernel
theorem dX5_freeFrames_7 : decode cX5_freeFrames 7 = .ok (.getfield 122, 3) := by decide +kernel
theorem dX5_freeFrames_10 : decode cX5_freeFrames 10 = .ok (.aload_n 0, 1) := by decide +kernel
theorem dX5_freeFrames_11 : decode cX5_freeFrames 11 = .ok (.getfield 53, 3) := by decide +kernel
theorem dX5_freeFrames_14 : decode cX5_freeFrames 14 = .ok (.aload_n 0, 1) := by decide +kernel
theorem dX5_freeFrames_15 : decode cX5_freeFrames 15 = .ok (.getfield 37, 3) := by decide +kernel
theorem dX5_freeFrames_18 : decode cX5_freeFrames 18 = .ok (.invokevirtual 72, 3) := by decide +kernel
theorem dX5_freeFrames_21 : decode cX5_freeFrames 21 = .ok (.lsub, 1) := by decide +kernel
theorem dX5_freeFrames_22 : decode cX5_freeFrames 22 = .ok (.lsub, 1) := by decide +kernel
theorem dX5_freeFrames_23 : decode cX5_freeFrames 23 = .ok (.lreturn, 1) := by decide +kernel
theorem dX5_isWrittenFor_0 : decode cX5_isWrittenFor 0 = .ok (.aload_n 0, 1) := by decide +kernel
theorem dX5_isWrittenFor_1 : decode cX5_isWrittenFor 1 = .ok (.getfield 53, 3) := by decide +kernel
theorem dX5_isWrittenFor_4 : decode cX5_isWrittenFor 4 = .ok (.aload_n 0, 1) := by decide +kernel
theorem dX5_isWrittenFor_5 : decode cX5_isWrittenFor 5 = .ok (.getfield 37, 3) := by decide +kernel
theorem dX5_isWrittenFor_8 : decode cX5_isWrittenFor 8 = .ok (.ldc2_w 125, 3) := by decide +kernel
theorem dX5_isWrittenFor_11 : decode cX5_isWrittenFor 11 = .ok (.iload_n 1, 1) := by decide +kernel
theorem dX5_isWrittenFor_12 : decode cX5_isWrittenFor 12 = .ok (.i2l, 1) := by decide +kernel
theorem dX5_isWrittenFor_13 : decode cX5_isWrittenFor 13 = .ok (.lmul, 1) := by decide +kernel
theorem dX5_isWrittenFor_14 : decode cX5_isWrittenFor 14 = .ok (.ladd, 1) := by decide +kernel
theorem dX5_isWrittenFor_15 : decode cX5_isWrittenFor 15 = .ok (.lconst 1, 1) := by decide +kernel
theorem dX5_isWrittenFor_16 : decode cX5_isWrittenFor 16 = .ok (.lsub, 1) := by decide +kernel
theorem dX5_isWrittenFor_17 : decode cX5_isWrittenFor 17 = .ok (.invokevirtual 127, 3) := by decide +kernel
theorem dX5_isWrittenFor_20 : decode cX5_isWrittenFor 20 = .ok (.aload_n 0, 1) := by decide +kernel
theorem dX5_isWrittenFor_21 : decode cX5_isWrittenFor 21 = .ok (.getfield 14, 3) := by decide +kernel
theorem dX5_isWrittenFor_24 : decode cX5_isWrittenFor 24 = .ok (.getfield 122, 3) := by decide +kernel
theorem dX5_isWrittenFor_27 : decode cX5_isWrittenFor 27 = .ok (.lcmp, 1) := by decide +kernel
theorem dX5_isWrittenFor_28 : decode cX5_isWrittenFor 28 = .ok (.ifCond .ge 7, 3) := by decide +kernel
theorem dX5_isWrittenFor_31 : decode cX5_isWrittenFor 31 = .ok (.iconst 1, 1) := by decide +kernel
theorem dX5_isWrittenFor_32 : decode cX5_isWrittenFor 32 = .ok (.goto 4, 3) := by decide +kernel
theorem dX5_isWrittenFor_35 : decode cX5_isWrittenFor 35 = .ok (.iconst 0, 1) := by decide +kernel
theorem dX5_isWrittenFor_36 : decode cX5_isWrittenFor 36 = .ok (.ireturn, 1) := by decide +kernel
theorem dX5_isPastAllWritten_0 : decode cX5_isPastAllWritten 0 = .ok (.aload_n 0, 1) := by decide +kernel
theorem dX5_isPastAllWritten_1 : decode cX5_isPastAllWritten 1 = .ok (.getfield 53, 3) := by decide +kernel
theorem dX5_isPastAllWritten_4 : decode cX5_isPastAllWritten 4 = .ok (.invokevirtual 130, 3) := by decide +kernel
theorem dX5_isPastAllWritten_7 : decode cX5_isPastAllWritten 7 = .ok (.ifCond .eq 7, 3) := by decide +kernel
theorem dX5_isPastAllWritten_10 : decode cX5_isPastAllWritten 10 = .ok (.lconst 0, 1) := by decide +kernel
theorem dX5_isPastAllWritten_11 : decode cX5_isPastAllWritten 11 = .ok (.goto 6, 3) := by decide +kernel
theorem dX5_isPastAllWritten_14 : decode cX5_isPastAllWritten 14 = .ok (.ldc2_w 135, 3) := by decide +kernel
theorem dX5_isPastAllWritten_17 : decode cX5_isPastAllWritten 17 = .ok (.lstore_n 1, 1) := by decide +kernel
theorem dX5_isPastAllWritten_18 : decode cX5_isPastAllWritten 18 = .ok (.aload_n 0, 1) := by decide +kernel
theorem dX5_isPastAllWritten_19 : decode cX5_isPastAllWritten 19 = .ok (.getfield 53, 3) := by decide +kernel
theorem dX5_isPastAllWritten_22 : decode cX5_isPastAllWritten 22 = .ok (.aload_n 0, 1) := by decide +kernel
theorem dX5_isPastAllWritten_23 : decode cX5_isPastAllWritten 23 = .ok (.getfield 37, 3) := by decide +kernel
theorem dX5_isPastAllWritten_26 : decode cX5_isPastAllWritten 26 = .ok (.invokevirtual 72, 3) := by decide +kernel
theorem dX5_isPastAllWritten_29 : decode cX5_isPastAllWritten 29 = .ok (.lload_n 1, 1) := by decide +kernel
theorem dX5_isPastAllWritten_30 : decode cX5_isPastAllWritten 30 = .ok (.lsub, 1) := by decide +kernel
theorem dX5_isPastAllWritten_31 : decode cX5_isPastAllWritten 31 = .ok (.aload_n 0, 1) := by decide +kernel
theorem dX5_isPastAllWritten_32 : decode cX5_isPastAllWritten 32 = .ok (.getfield 14, 3) := by decide +kernel
theorem dX5_isPastAllWritten_35 : decode cX5_isPastAllWritten 35 = .ok (.getfield 122, 3) := by decide +kernel
theorem dX5_isPastAllWritten_38 : decode cX5_isPastAllWritten 38 = .ok (.lcmp, 1) := by decide +kernel
theorem dX5_isPastAllWritten_39 : decode cX5_isPastAllWritten 39 = .ok (.ifCond .lt 7, 3) := by decide +kernel
theorem dX5_isPastAllWritten_42 : decode cX5_isPastAllWritten 42 = .ok (.iconst 1, 1) := by decide +kernel
theorem dX5_isPastAllWritten_43 : decode cX5_isPastAllWritten 43 = .ok (.goto 4, 3) := by decide +kernel
theorem dX5_isPastAllWritten_46 : decode cX5_isPastAllWritten 46 = .ok (.iconst 0, 1) := by decide +kernel
theorem dX5_isPastAllWritten_47 : decode cX5_isPastAllWritten 47 = .ok (.ireturn, 1) := by decide +kernel
theorem dX5_giveOutputs_0 : decode cX5_giveOutputs 0 = .ok (.iconst 0, 1) := by decide +kernel
theorem dX5_giveOutputs_1 : decode cX5_giveOutputs 1 = .ok (.istore_n 2, 1) := by decide +kernel
theorem dX5_giveOutputs_2 : decode cX5_giveOutputs 2 = .ok (.iload_n 2, 1) := by decide +kernel
theorem dX5_giveOutputs_3 : decode cX5_giveOutputs 3 = .ok (.bipush 24, 2) := by decide +kernel
theorem dX5_giveOutputs_5 : decode cX5_giveOutputs 5 = .ok (.if_icmp .ge 79, 3) := by decide +kernel
theorem dX5_giveOutputs_8 : decode cX5_giveOutputs 8 = .ok (.aload_n 0, 1) := by decide +kernel
theorem dX5_giveOutputs_9 : decode cX5_giveOutputs 9 = .ok (.aload_n 0, 1) := by decide +kernel
theorem dX5_giveOutputs_10 : decode cX5_giveOutputs 10 = .ok (.getfield 53, 3) := by decide +kernel
theorem dX5_giveOutputs_13 : decode cX5_giveOutputs 13 = .ok (.aload_n 0, 1) := by decide +kernel
theorem dX5_giveOutputs_14 : decode cX5_giveOutputs 14 = .ok (.getfield 14, 3) := by decide +kernel
theorem dX5_giveOutputs_17 : decode cX5_giveOutputs 17 = .ok (.aload_n 0, 1) := by decide +kernel
theorem dX5_giveOutputs_18 : decode cX5_giveOutputs 18 = .ok (.getfield 37, 3) := by decide +kernel
theorem dX5_giveOutputs_21 : decode cX5_giveOutputs 21 = .ok (.iconst 0, 1) := by decide +kernel
theorem dX5_giveOutputs_22 : decode cX5_giveOutputs 22 = .ok (.invokevirtual 137, 3) := by decide +kernel
theorem dX5_giveOutputs_25 : decode cX5_giveOutputs 25 = .ok (.putfield 31, 3) := by decide +kernel
theorem dX5_giveOutputs_28 : decode cX5_giveOutputs 28 = .ok (.aload_n 0, 1) := by decide +kernel
theorem dX5_giveOutputs_29 : decode cX5_giveOutputs 29 = .ok (.aload_n 0, 1) := by decide +kernel
theorem dX5_giveOutputs_30 : decode cX5_giveOutputs 30 = .ok (.getfield 53, 3) := by decide +kernel
theorem dX5_giveOutputs_33 : decode cX5_giveOutputs 33 = .ok (.aload_n 0, 1) := by decide +kernel
theorem dX5_giveOutputs_34 : decode cX5_giveOutputs 34 = .ok (.getfield 14, 3) := by decide +kernel
theorem dX5_giveOutputs_37 : decode cX5_giveOutputs 37 = .ok (.aload_n 0, 1) := by decide +kernel
theorem dX5_giveOutputs_38 : decode cX5_giveOutputs 38 = .ok (.getfield 37, 3) := by decide +kernel
theorem dX5_giveOutputs_41 : decode cX5_giveOutputs 41 = .ok (.iconst 1, 1) := by decide +kernel
theorem dX5_giveOutputs_42 : decode cX5_giveOutputs 42 = .ok (.invokevirtual 137, 3) := by decide +kernel
theorem dX5_giveOutputs_45 : decode cX5_giveOutputs 45 = .ok (.putfield 34, 3) := by decide +kernel
theorem dX5_giveOutputs_48 : decode cX5_giveOutputs 48 = .ok (.aload_n 1, 1) := by decide +kernel
theorem dX5_giveOutputs_49 : decode cX5_giveOutputs 49 = .ok (.iconst 2, 1) := by decide +kernel
theorem dX5_giveOutputs_50 : decode cX5_giveOutputs 50 = .ok (.iload_n 2, 1) := by decide +kernel
theorem dX5_giveOutputs_51 : decode cX5_giveOutputs 51 = .ok (.imul, 1) := by decide +kernel
theorem dX5_giveOutputs_52 : decode cX5_giveOutputs 52 = .ok (.aload_n 0, 1) := by decide +kernel
theorem dX5_giveOutputs_53 : decode cX5_giveOutputs 53 = .ok (.getfield 31, 3) := by decide +kernel
theorem dX5_giveOutputs_56 : decode cX5_giveOutputs 56 = .ok (.iastore, 1) := by decide +kernel
theorem dX5_giveOutputs_57 : decode cX5_giveOutputs 57 = .ok (.aload_n 1, 1) := by decide +kernel
theorem dX5_giveOutputs_58 : decode cX5_giveOutputs 58 = .ok (.iconst 2, 1) := by decide +kernel
theorem dX5_giveOutputs_59 : decode cX5_giveOutputs 59 = .ok (.iload_n 2, 1) := by decide +kernel
theorem dX5_giveOutputs_60 : decode cX5_giveOutputs 60 = .ok (.imul, 1) := by decide +kernel
theorem dX5_giveOutputs_61 : decode cX5_giveOutputs 61 = .ok (.iconst 1, 1) := by decide +kernel
theorem dX5_giveOutputs_62 : decode cX5_giveOutputs 62 = .ok (.iadd, 1) := by decide +kernel
theorem dX5_giveOutputs_63 : decode cX5_giveOutputs 63 = .ok (.aload_n 0, 1) := by decide +kernel
theorem dX5_giveOutputs_64 : decode cX5_giveOutputs 64 = .ok (.getfield 34, 3) := by decide +kernel
theorem dX5_giveOutputs_67 : decode cX5_giveOutputs 67 = .ok (.iastore, 1) := by decide +kernel
theorem dX5_giveOutputs_68 : decode cX5_giveOutputs 68 = .ok (.aload_n 0, 1) := by decide +kernel
theorem dX5_giveOutputs_69 : decode cX5_giveOutputs 69 = .ok (.dup, 1) := by decide +kernel
theorem dX5_giveOutputs_70 : decode cX5_giveOutputs 70 = .ok (.getfield 37, 3) := by decide +kernel
theorem dX5_giveOutputs_73 : decode cX5_giveOutputs 73 = .ok (.lconst 1, 1) := by decide +kernel
theorem dX5_giveOutputs_74 : decode cX5_giveOutputs 74 = .ok (.ladd, 1) := by decide +kernel
theorem dX5_giveOutputs_75 : decode cX5_giveOutputs 75 = .ok (.putfield 37, 3) := by decide +kernel
theorem dX5_giveOutputs_78 : decode cX5_giveOutputs 78 = .ok (.iinc 2 1, 3) := by decide +kernel
theorem dX5_giveOutputs_81 : decode cX5_giveOutputs 81 = .ok (.goto (-79), 3) := by decide +kernel
theorem dX5_giveOutputs_84 : decode cX5_giveOutputs 84 = .ok (.return_, 1) := by decide +kernel
theorem dX5_giveFade_0 : decode cX5_giveFade 0 = .ok (.iconst 0, 1) := by decide +kernel
theorem dX5_giveFade_1 : decode cX5_giveFade 1 = .ok (.istore_n 2, 1) := by decide +kernel
theorem dX5_giveFade_2 : decode cX5_giveFade 2 = .ok (.iload_n 2, 1) := by decide +kernel
theorem dX5_giveFade_3 : decode cX5_giveFade 3 = .ok (.bipush 24, 2) := by decide +kernel
theorem dX5_giveFade_5 : decode cX5_giveFade 5 = .ok (.if_icmp .ge 52, 3) := by decide +kernel
theorem dX5_giveFade_8 : decode cX5_giveFade 8 = .ok (.iconst 0, 1) := by decide +kernel
theorem dX5_giveFade_9 : decode cX5_giveFade 9 = .ok (.bipush 15, 2) := by decide +kernel
theorem dX5_giveFade_11 : decode cX5_giveFade 11 = .ok (.iload_n 2, 1) := by decide +kernel
theorem dX5_giveFade_12 : decode cX5_giveFade 12 = .ok (.isub, 1) := by decide +kernel
theorem dX5_giveFade_13 : decode cX5_giveFade 13 = .ok (.invokestatic 141, 3) := by decide +kernel
theorem dX5_giveFade_16 : decode cX5_giveFade 16 = .ok (.istore_n 3, 1) := by decide +kernel
theorem dX5_giveFade_17 : decode cX5_giveFade 17 = .ok (.aload_n 1, 1) := by decide +kernel
theorem dX5_giveFade_18 : decode cX5_giveFade 18 = .ok (.iconst 2, 1) := by decide +kernel
theorem dX5_giveFade_19 : decode cX5_giveFade 19 = .ok (.iload_n 2, 1) := by decide +kernel
theorem dX5_giveFade_20 : decode cX5_giveFade 20 = .ok (.imul, 1) := by decide +kernel
theorem dX5_giveFade_21 : decode cX5_giveFade 21 = .ok (.aload_n 0, 1) := by decide +kernel
theorem dX5_giveFade_22 : decode cX5_giveFade 22 = .ok (.getfield 31, 3) := by decide +kernel
theorem dX5_giveFade_25 : decode cX5_giveFade 25 = .ok (.iload_n 3, 1) := by decide +kernel
theorem dX5_giveFade_26 : decode cX5_giveFade 26 = .ok (.imul, 1) := by decide +kernel
theorem dX5_giveFade_27 : decode cX5_giveFade 27 = .ok (.bipush 16, 2) := by decide +kernel
theorem dX5_giveFade_29 : decode cX5_giveFade 29 = .ok (.invokestatic 114, 3) := by decide +kernel
theorem dX5_giveFade_32 : decode cX5_giveFade 32 = .ok (.iastore, 1) := by decide +kernel
theorem dX5_giveFade_33 : decode cX5_giveFade 33 = .ok (.aload_n 1, 1) := by decide +kernel
theorem dX5_giveFade_34 : decode cX5_giveFade 34 = .ok (.iconst 2, 1) := by decide +kernel
theorem dX5_giveFade_35 : decode cX5_giveFade 35 = .ok (.iload_n 2, 1) := by decide +kernel
theorem dX5_giveFade_36 : decode cX5_giveFade 36 = .ok (.imul, 1) := by decide +kernel
theorem dX5_giveFade_37 : decode cX5_giveFade 37 = .ok (.iconst 1, 1) := by decide +kernel
theorem dX5_giveFade_38 : decode cX5_giveFade 38 = .ok (.iadd, 1) := by decide +kernel
theorem dX5_giveFade_39 : decode cX5_giveFade 39 = .ok (.aload_n 0, 1) := by decide +kernel
theorem dX5_giveFade_40 : decode cX5_giveFade 40 = .ok (.getfield 34, 3) := by decide +kernel
theorem dX5_giveFade_43 : decode cX5_giveFade 43 = .ok (.iload_n 3, 1) := by decide +kernel
theorem dX5_giveFade_44 : decode cX5_giveFade 44 = .ok (.imul, 1) := by decide +kernel
theorem dX5_giveFade_45 : decode cX5_giveFade 45 = .ok (.bipush 16, 2) := by decide +kernel
theorem dX5_giveFade_47 : decode cX5_giveFade 47 = .ok (.invokestatic 114, 3) := by decide +kernel
theorem dX5_giveFade_50 : decode cX5_giveFade 50 = .ok (.iastore, 1) := by decide +kernel
theorem dX5_giveFade_51 : decode cX5_giveFade 51 = .ok (.iinc 2 1, 3) := by decide +kernel
theorem dX5_giveFade_54 : decode cX5_giveFade 54 = .ok (.goto (-52), 3) := by decide +kernel
theorem dX5_giveFade_57 : decode cX5_giveFade 57 = .ok (.aload_n 0, 1) := by decide +kernel
theorem dX5_giveFade_58 : decode cX5_giveFade 58 = .ok (.iconst 0, 1) := by decide +kernel
theorem dX5_giveFade_59 : decode cX5_giveFade 59 = .ok (.putfield 31, 3) := by decide +kernel
theorem dX5_giveFade_62 : decode cX5_giveFade 62 = .ok (.aload_n 0, 1) := by decide +kernel
theorem dX5_giveFade_63 : decode cX5_giveFade 63 = .ok (.iconst 0, 1) := by decide +kernel
theorem dX5_giveFade_64 : decode cX5_giveFade 64 = .ok (.putfield 34, 3) := by decide +kernel
theorem dX5_giveFade_67 : decode cX5_giveFade 67 = .ok (.aload_n 0, 1) := by decide +kernel
theorem dX5_giveFade_68 : decode cX5_giveFade 68 = .ok (.dup, 1) := by decide +kernel
theorem dX5_giveFade_69 : decode cX5_giveFade 69 = .ok (.getfield 144, 3) := by decide +kernel
theorem dX5_giveFade_72 : decode cX5_giveFade 72 = .ok (.iconst 1, 1) := by decide +kernel
theorem dX5_giveFade_73 : decode cX5_giveFade 73 = .ok (.iadd, 1) := by decide +kernel
theorem dX5_giveFade_74 : decode cX5_giveFade 74 = .ok (.putfield 144, 3) := by decide +kernel
theorem dX5_giveFade_77 : decode cX5_giveFade 77 = .ok (.return_, 1) := by decide +kernel
theorem dX5_sumOfSquares_0 : decode cX5_sumOfSquares 0 = .ok (.lconst 0, 1) := by decide +kernel
theorem dX5_sumOfSquares_1 : decode cX5_sumOfSquares 1 = .ok (.lstore_n 1, 1) := by decide +kernel
theorem dX5_sumOfSquares_2 : decode cX5_sumOfSquares 2 = .ok (.iconst 0, 1) := by decide +kernel
theorem dX5_sumOfSquares_3 : decode cX5_sumOfSquares 3 = .ok (.istore_n 3, 1) := by decide +kernel
theorem dX5_sumOfSquares_4 : decode cX5_sumOfSquares 4 = .ok (.iload_n 3, 1) := by decide +kernel
theorem dX5_sumOfSquares_5 : decode cX5_sumOfSquares 5 = .ok (.bipush 48, 2) := by decide +kernel
theorem dX5_sumOfSquares_7 : decode cX5_sumOfSquares 7 = .ok (.if_icmp .ge 21, 3) := by decide +kernel
theorem dX5_sumOfSquares_10 : decode cX5_sumOfSquares 10 = .ok (.lload_n 1, 1) := by decide +kernel
theorem dX5_sumOfSquares_11 : decode cX5_sumOfSquares 11 = .ok (.aload_n 0, 1) := by decide +kernel
theorem dX5_sumOfSquares_12 : decode cX5_sumOfSquares 12 = .ok (.iload_n 3, 1) := by decide +kernel
theorem dX5_sumOfSquares_13 : decode cX5_sumOfSquares 13 = .ok (.iaload, 1) := by decide +kernel
theorem dX5_sumOfSquares_14 : decode cX5_sumOfSquares 14 = .ok (.i2l, 1) := by decide +kernel
theorem dX5_sumOfSquares_15 : decode cX5_sumOfSquares 15 = .ok (.aload_n 0, 1) := by decide +kernel
theorem dX5_sumOfSquares_16 : decode cX5_sumOfSquares 16 = .ok (.iload_n 3, 1) := by decide +kernel
theorem dX5_sumOfSquares_17 : decode cX5_sumOfSquares 17 = .ok (.iaload, 1) := by decide +kernel
theorem dX5_sumOfSquares_18 : decode cX5_sumOfSquares 18 = .ok (.i2l, 1) := by decide +kernel
theorem dX5_sumOfSquares_19 : decode cX5_sumOfSquares 19 = .ok (.lmul, 1) := by decide +kernel
theorem dX5_sumOfSquares_20 : decode cX5_sumOfSquares 20 = .ok (.ladd, 1) := by decide +kernel
theorem dX5_sumOfSquares_21 : decode cX5_sumOfSquares 21 = .ok (.lstore_n 1, 1) := by decide +kernel
theorem dX5_sumOfSquares_22 : decode cX5_sumOfSquares 22 = .ok (.iinc 3 1, 3) := by decide +kernel
theorem dX5_sumOfSquares_25 : decode cX5_sumOfSquares 25 = .ok (.goto (-21), 3) := by decide +kernel
theorem dX5_sumOfSquares_28 : decode cX5_sumOfSquares 28 = .ok (.lload_n 1, 1) := by decide +kernel
theorem dX5_sumOfSquares_29 : decode cX5_sumOfSquares 29 = .ok (.lreturn, 1) := by decide +kernel
theorem dX6_init_0 : decode cX6_init 0 = .ok (.aload_n 0, 1) := by decide +kernel
theorem dX6_init_1 : decode cX6_init 1 = .ok (.invokespecial 1, 3) := by decide +kernel
theorem dX6_init_4 : decode cX6_init 4 = .ok (.aload_n 0, 1) := by decide +kernel
theorem dX6_init_5 : decode cX6_init 5 = .ok (.sipush 512, 3) := by decide +kernel
theorem dX6_init_8 : decode cX6_init 8 = .ok (.newarray .int, 2) := by decide +kernel
theorem dX6_init_10 : decode cX6_init 10 = .ok (.putfield 9, 3) := by decide +kernel
theorem dX6_init_13 : decode cX6_init 13 = .ok (.iconst 0, 1) := by decide +kernel
theorem dX6_init_14 : decode cX6_init 14 = .ok (.istore_n 1, 1) := by decide +kernel
theorem dX6_init_15 : decode cX6_init 15 = .ok (.iload_n 1, 1) := by decide +kernel
theorem dX6_init_16 : decode cX6_init 16 = .ok (.bipush 32, 2) := by decide +kernel
theorem dX6_init_18 : decode cX6_init 18 = .ok (.if_icmp .ge 102, 3) := by decide +kernel
theorem dX6_init_21 : decode cX6_init 21 = .ok (.iload_n 1, 1) := by decide +kernel
theorem dX6_init_22 : decode cX6_init 22 = .ok (.invokestatic 13, 3) := by decide +kernel
theorem dX6_init_25 : decode cX6_init 25 = .ok (.istore_n 2, 1) := by decide +kernel
theorem dX6_init_26 : decode cX6_init 26 = .ok (.sipush 16384, 3) := by decide +kernel
theorem dX6_init_29 : decode cX6_init 29 = .ok (.istore_n 3, 1) := by decide +kernel
theorem dX6_init_30 : decode cX6_init 30 = .ok (.iconst 0, 1) := by decide +kernel
theorem dX6_init_31 : decode cX6_init 31 = .ok (.istore 4, 2) := by decide +kernel
theorem dX6_init_33 : decode cX6_init 33 = .ok (.iload 4, 2) := by decide +kernel
theorem dX6_init_35 : decode cX6_init 35 = .ok (.bipush 16, 2) := by decide +kernel
theorem dX6_init_37 : decode cX6_init 37 = .ok (.if_icmp .ge 50, 3) := by decide +kernel
theorem dX6_init_40 : decode cX6_init 40 = .ok (.iload_n 2, 1) := by decide +kernel
theorem dX6_init_41 : decode cX6_init 41 = .ok (.ifCond .le 18, 3) := by decide +kernel
theorem dX6_init_44 : decode cX6_init 44 = .ok (.sipush 16384, 3) := by decide +kernel
theorem dX6_init_47 : decode cX6_init 47 = .ok (.iload_n 1, 1) := by decide +kernel
theorem dX6_init_48 : decode cX6_init 48 = .ok (.iload 4, 2) := by decide +kernel
theorem dX6_init_50 : decode cX6_init 50 = .ok (.invokestatic 17, 3) := by decide +kernel
theorem dX6_init_53 : decode cX6_init 53 = .ok (.imul, 1) := by decide +kernel
theorem dX6_init_54 : decode cX6_init 54 = .ok (.iload_n 2, 1) := by decide +kernel
theorem dX6_init_55 : decode cX6_init 55 = .ok (.idiv, 1) := by decide +kernel
theorem dX6_init_56 : decode cX6_init 56 = .ok (.goto 4, 3) := by decide +kernel
theorem dX6_init_59 : decode cX6_init 59 = .ok (.iconst 0, 1) := by decide +kernel
theorem dX6_init_60 : decode cX6_init 60 = .ok (.istore 5, 2) := by decide +kernel
theorem dX6_init_62 : decode cX6_init 62 = .ok (.aload_n 0, 1) := by decide +kernel
theorem dX6_init_63 : decode cX6_init 63 = .ok (.getfield 9, 3) := by decide +kernel
theorem dX6_init_66 : decode cX6_init 66 = .ok (.iload_n 1, 1) := by decide +kernel
theorem dX6_init_67 : decode cX6_init 67 = .ok (.bipush 16, 2) := by decide +kernel
theorem dX6_init_69 : decode cX6_init 69 = .ok (.imul, 1) := by decide +kernel
theorem dX6_init_70 : decode cX6_init 70 = .ok (.iload 4, 2) := by decide +kernel
theorem dX6_init_72 : decode cX6_init 72 = .ok (.iadd, 1) := by decide +kernel
theorem dX6_init_73 : decode cX6_init 73 = .ok (.iload 5, 2) := by decide +kernel
theorem dX6_init_75 : decode cX6_init 75 = .ok (.iastore, 1) := by decide +kernel
theorem dX6_init_76 : decode cX6_init 76 = .ok (.iload_n 3, 1) := by decide +kernel
theorem dX6_init_77 : decode cX6_init 77 = .ok (.iload 5, 2) := by decide +kernel
theorem dX6_init_79 : decode cX6_init 79 = .ok (.isub, 1) := by decide +kernel
theorem dX6_init_80 : decode cX6_init 80 = .ok (.istore_n 3, 1) := by decide +kernel
theorem dX6_init_81 : decode cX6_init 81 = .ok (.iinc 4 1, 3) := by decide +kernel
theorem dX6_init_84 : decode cX6_init 84 = .ok (.goto (-51), 3) := by decide +kernel
theorem dX6_init_87 : decode cX6_init 87 = .ok (.aload_n 0, 1) := by decide +kernel
theorem dX6_init_88 : decode cX6_init 88 = .ok (.getfield 9, 3) := by decide +kernel
theorem dX6_init_91 : decode cX6_init 91 = .ok (.iload_n 1, 1) := by decide +kernel
theorem dX6_init_92 : decode cX6_init 92 = .ok (.bipush 16, 2) := by decide +kernel
theorem dX6_init_94 : decode cX6_init 94 = .ok (.imul, 1) := by decide +kernel
theorem dX6_init_95 : decode cX6_init 95 = .ok (.iload_n 1, 1) := by decide +kernel
theorem dX6_init_96 : decode cX6_init 96 = .ok (.bipush 16, 2) := by decide +kernel
theorem dX6_init_98 : decode cX6_init 98 = .ok (.if_icmp .le 8, 3) := by decide +kernel
theorem dX6_init_101 : decode cX6_init 101 = .ok (.bipush 8, 2) := by decide +kernel
theorem dX6_init_103 : decode cX6_init 103 = .ok (.goto 5, 3) := by decide +kernel
theorem dX6_init_106 : decode cX6_init 106 = .ok (.bipush 7, 2) := by decide +kernel
theorem dX6_init_108 : decode cX6_init 108 = .ok (.iadd, 1) := by decide +kernel
theorem dX6_init_109 : decode cX6_init 109 = .ok (.dup2, 1) := by decide +kernel
theorem dX6_init_110 : decode cX6_init 110 = .ok (.iaload, 1) := by decide +kernel
theorem dX6_init_111 : decode cX6_init 111 = .ok (.iload_n 3, 1) := by decide +kernel
theorem dX6_init_112 : decode cX6_init 112 = .ok (.iadd, 1) := by decide +kernel
theorem dX6_init_113 : decode cX6_init 113 = .ok (.iastore, 1) := by decide +kernel
theorem dX6_init_114 : decode cX6_init 114 = .ok (.iinc 1 1, 3) := by decide +kernel
theorem dX6_init_117 : decode cX6_init 117 = .ok (.goto (-102), 3) := by decide +kernel
theorem dX6_init_120 : decode cX6_init 120 = .ok (.return_, 1) := by decide +kernel
theorem dX6_of_0 : decode cX6_of 0 = .ok (.aload_n 0, 1) := by decide +kernel
theorem dX6_of_1 : decode cX6_of 1 = .ok (.getfield 9, 3) := by decide +kernel
theorem dX6_of_4 : decode cX6_of 4 = .ok (.iload_n 1, 1) := by decide +kernel
theorem dX6_of_5 : decode cX6_of 5 = .ok (.bipush 16, 2) := by decide +kernel
theorem dX6_of_7 : decode cX6_of 7 = .ok (.imul, 1) := by decide +kernel
theorem dX6_of_8 : decode cX6_of 8 = .ok (.iload_n 2, 1) := by decide +kernel
theorem dX6_of_9 : decode cX6_of 9 = .ok (.iadd, 1) := by decide +kernel
theorem dX6_of_10 : decode cX6_of 10 = .ok (.iaload, 1) := by decide +kernel
theorem dX6_of_11 : decode cX6_of 11 = .ok (.ireturn, 1) := by decide +kernel
theorem dX6_weightsOf_0 : decode cX6_weightsOf 0 = .ok (.iconst 0, 1) := by decide +kernel
theorem dX6_weightsOf_1 : decode cX6_weightsOf 1 = .ok (.istore_n 1, 1) := by decide +kernel
theorem dX6_weightsOf_2 : decode cX6_weightsOf 2 = .ok (.iconst 0, 1) := by decide +kernel
theorem dX6_weightsOf_3 : decode cX6_weightsOf 3 = .ok (.istore_n 2, 1) := by decide +kernel
theorem dX6_weightsOf_4 : decode cX6_weightsOf 4 = .ok (.iload_n 2, 1) := by decide +kernel
theorem dX6_weightsOf_5 : decode cX6_weightsOf 5 = .ok (.bipush 16, 2) := by decide +kernel
theorem dX6_weightsOf_7 : decode cX6_weightsOf 7 = .ok (.if_icmp .ge 17, 3) := by decide +kernel
theorem dX6_weightsOf_10 : decode cX6_weightsOf 10 = .ok (.iload_n 1, 1) := by decide +kernel
theorem dX6_weightsOf_11 : decode cX6_weightsOf 11 = .ok (.iload_n 0, 1) := by decide +kernel
theorem dX6_weightsOf_12 : decode cX6_weightsOf 12 = .ok (.iload_n 2, 1) := by decide +kernel
theorem dX6_weightsOf_13 : decode cX6_weightsOf 13 = .ok (.invokestatic 17, 3) := by decide +kernel
theorem dX6_weightsOf_16 : decode cX6_weightsOf 16 = .ok (.iadd, 1) := by decide +kernel
theorem dX6_weightsOf_17 : decode cX6_weightsOf 17 = .ok (.istore_n 1, 1) := by decide +kernel
theorem dX6_weightsOf_18 : decode cX6_weightsOf 18 = .ok (.iinc 2 1, 3) := by decide +kernel
theorem dX6_weightsOf_21 : decode cX6_weightsOf 21 = .ok (.goto (-17), 3) := by decide +kernel
theorem dX6_weightsOf_24 : decode cX6_weightsOf 24 = .ok (.iload_n 1, 1) := by decide +kernel
theorem dX6_weightsOf_25 : decode cX6_weightsOf 25 = .ok (.ireturn, 1) := by decide +kernel
theorem dX6_weight_0 : decode cX6_weight 0 = .ok (.bipush 32, 2) := by decide +kernel
theorem dX6_weight_2 : decode cX6_weight 2 = .ok (.iload_n 1, 1) := by decide +kernel
theorem dX6_weight_3 : decode cX6_weight 3 = .ok (.bipush 7, 2) := by decide +kernel
theorem dX6_weight_5 : decode cX6_weight 5 = .ok (.isub, 1) := by decide +kernel
theorem dX6_weight_6 : decode cX6_weight 6 = .ok (.imul, 1) := by decide +kernel
theorem dX6_weight_7 : decode cX6_weight 7 = .ok (.iload_n 0, 1) := by decide +kernel
theorem dX6_weight_8 : decode cX6_weight 8 = .ok (.isub, 1) := by decide +kernel
theorem dX6_weight_9 : decode cX6_weight 9 = .ok (.invokestatic 21, 3) := by decide +kernel
theorem dX6_weight_12 : decode cX6_weight 12 = .ok (.istore_n 2, 1) := by decide +kernel
theorem dX6_weight_13 : decode cX6_weight 13 = .ok (.iload_n 2, 1) := by decide +kernel
theorem dX6_weight_14 : decode cX6_weight 14 = .ok (.sipush 256, 3) := by decide +kernel
theorem dX6_weight_17 : decode cX6_weight 17 = .ok (.if_icmp .le 7, 3) := by decide +kernel
theorem dX6_weight_20 : decode cX6_weight 20 = .ok (.iconst 0, 1) := by decide +kernel
theorem dX6_weight_21 : decode cX6_weight 21 = .ok (.goto 14, 3) := by decide +kernel
theorem dX6_weight_24 : decode cX6_weight 24 = .ok (.sipush 256, 3) := by decide +kernel
theorem dX6_weight_27 : decode cX6_weight 27 = .ok (.iload_n 2, 1) := by decide +kernel
theorem dX6_weight_28 : decode cX6_weight 28 = .ok (.isub, 1) := by decide +kernel
theorem dX6_weight_29 : decode cX6_weight 29 = .ok (.sipush 256, 3) := by decide +kernel
theorem dX6_weight_32 : decode cX6_weight 32 = .ok (.iload_n 2, 1) := by decide +kernel
theorem dX6_weight_33 : decode cX6_weight 33 = .ok (.isub, 1) := by decide +kernel
theorem dX6_weight_34 : decode cX6_weight 34 = .ok (.imul, 1) := by decide +kernel
theorem dX6_weight_35 : decode cX6_weight 35 = .ok (.ireturn, 1) := by decide +kernel
theorem dX7_init_0 : decode cX7_init 0 = .ok (.aload_n 0, 1) := by decide +kernel
theorem dX7_init_1 : decode cX7_init 1 = .ok (.invokespecial 1, 3) := by decide +kernel
theorem dX7_init_4 : decode cX7_init 4 = .ok (.aload_n 0, 1) := by decide +kernel
theorem dX7_init_5 : decode cX7_init 5 = .ok (.new 7, 3) := by decide +kernel
theorem dX7_init_8 : decode cX7_init 8 = .ok (.dup, 1) := by decide +kernel
theorem dX7_init_9 : decode cX7_init 9 = .ok (.invokespecial 9, 3) := by decide +kernel
theorem dX7_init_12 : decode cX7_init 12 = .ok (.putfield 10, 3) := by decide +kernel
theorem dX7_init_15 : decode cX7_init 15 = .ok (.aload_n 0, 1) := by decide +kernel
theorem dX7_init_16 : decode cX7_init 16 = .ok (.new 16, 3) := by decide +kernel
theorem dX7_init_19 : decode cX7_init 19 = .ok (.dup, 1) := by decide +kernel
theorem dX7_init_20 : decode cX7_init 20 = .ok (.invokespecial 18, 3) := by decide +kernel
theorem dX7_init_23 : decode cX7_init 23 = .ok (.putfield 19, 3) := by decide +kernel
theorem dX7_init_26 : decode cX7_init 26 = .ok (.aload_n 0, 1) := by decide +kernel
theorem dX7_init_27 : decode cX7_init 27 = .ok (.bipush 6, 2) := by decide +kernel
theorem dX7_init_29 : decode cX7_init 29 = .ok (.anewarray 23, 3) := by decide +kernel
theorem dX7_init_32 : decode cX7_init 32 = .ok (.putfield 25, 3) := by decide +kernel
theorem dX7_init_35 : decode cX7_init 35 = .ok (.aload_n 0, 1) := by decide +kernel
theorem dX7_init_36 : decode cX7_init 36 = .ok (.iconst 4, 1) := by decide +kernel
theorem dX7_init_37 : decode cX7_init 37 = .ok (.bipush 48, 2) := by decide +kernel
theorem dX7_init_39 : decode cX7_init 39 = .ok (.multianewarray 29 2, 4) := by decide +kernel
theorem dX7_init_43 : decode cX7_init 43 = .ok (.putfield 31, 3) := by decide +kernel
theorem dX7_init_46 : decode cX7_init 46 = .ok (.aload_n 0, 1) := by decide +kernel
theorem dX7_init_47 : decode cX7_init 47 = .ok (.iconst 0, 1) := by decide +kernel
theorem dX7_init_48 : decode cX7_init 48 = .ok (.putfield 34, 3) := by decide +kernel
theorem dX7_init_51 : decode cX7_init 51 = .ok (.aload_n 0, 1) := by decide +kernel
theorem dX7_init_52 : decode cX7_init 52 = .ok (.iconst 0, 1) := by decide +kernel
theorem dX7_init_53 : decode cX7_init 53 = .ok (.putfield 38, 3) := by decide +kernel
theorem dX7_init_56 : decode cX7_init 56 = .ok (.aload_n 0, 1) := by decide +kernel
theorem dX7_init_57 : decode cX7_init 57 = .ok (.iconst 4, 1) := by decide +kernel
theorem dX7_init_58 : decode cX7_init 58 = .ok (.bipush 48, 2) := by decide +kernel
theorem dX7_init_60 : decode cX7_init 60 = .ok (.multianewarray 29 2, 4) := by decide +kernel
theorem dX7_init_64 : decode cX7_init 64 = .ok (.putfield 41, 3) := by decide +kernel
theorem dX7_init_67 : decode cX7_init 67 = .ok (.aload_n 0, 1) := by decide +kernel
theorem dX7_init_68 : decode cX7_init 68 = .ok (.iconst 0, 1) := by decide +kernel
theorem dX7_init_69 : decode cX7_init 69 = .ok (.putfield 44, 3) := by decide +kernel
theorem dX7_init_72 : decode cX7_init 72 = .ok (.aload_n 0, 1) := by decide +kernel
theorem dX7_init_73 : decode cX7_init 73 = .ok (.bipush 48, 2) := by decide +kernel
theorem dX7_init_75 : decode cX7_init 75 = .ok (.newarray .int, 2) := by decide +kernel
theorem dX7_init_77 : decode cX7_init 77 = .ok (.putfield 47, 3) := by decide +kernel
theorem dX7_init_80 : decode cX7_init 80 = .ok (.aload_n 0, 1) := by decide +kernel
theorem dX7_init_81 : decode cX7_init 81 = .ok (.bipush 48, 2) := by decide +kernel
theorem dX7_init_83 : decode cX7_init 83 = .ok (.newarray .int, 2) := by decide +kernel
theorem dX7_init_85 : decode cX7_init 85 = .ok (.putfield 51, 3) := by decide +kernel
theorem dX7_init_88 : decode cX7_init 88 = .ok (.aload_n 0, 1) := by decide +kernel
theorem dX7_init_89 : decode cX7_init 89 = .ok (.bipush 48, 2) := by decide +kernel
theorem dX7_init_91 : decode cX7_init 91 = .ok (.newarray .int, 2) := by decide +kernel
theorem dX7_init_93 : decode cX7_init 93 = .ok (.putfield 54, 3) := by decide +kernel
theorem dX7_init_96 : decode cX7_init 96 = .ok (.return_, 1) := by decide +kernel
theorem dX7_open_0 : decode cX7_open 0 = .ok (.iload_n 2, 1) := by decide +kernel
theorem dX7_open_1 : decode cX7_open 1 = .ok (.invokestatic 57, 3) := by decide +kernel
theorem dX7_open_4 : decode cX7_open 4 = .ok (.ifCond .eq 27, 3) := by decide +kernel
theorem dX7_open_7 : decode cX7_open 7 = .ok (.iload_n 3, 1) := by decide +kernel
theorem dX7_open_8 : decode cX7_open 8 = .ok (.iconst 1, 1) := by decide +kernel
theorem dX7_open_9 : decode cX7_open 9 = .ok (.if_icmp .eq 8, 3) := by decide +kernel
theorem dX7_open_12 : decode cX7_open 12 = .ok (.iload_n 3, 1) := by decide +kernel
theorem dX7_open_13 : decode cX7_open 13 = .ok (.iconst 2, 1) := by decide +kernel
theorem dX7_open_14 : decode cX7_open 14 = .ok (.if_icmp .ne 17, 3) := by decide +kernel
theorem dX7_open_17 : decode cX7_open 17 = .ok (.iload 4, 2) := by decide +kernel
theorem dX7_open_19 : decode cX7_open 19 = .ok (.bipush 8, 2) := by decide +kernel
theorem dX7_open_21 : decode cX7_open 21 = .ok (.if_icmp .eq 20, 3) := by decide +kernel
theorem dX7_open_24 : decode cX7_open 24 = .ok (.iload 4, 2) := by decide +kernel
theorem dX7_open_26 : decode cX7_open 26 = .ok (.bipush 16, 2) := by decide +kernel
theorem dX7_open_28 : decode cX7_open 28 = .ok (.if_icmp .eq 13, 3) := by decide +kernel
theorem dX7_open_31 : decode cX7_open 31 = .ok (.new 61, 3) := by decide +kernel
theorem dX7_open_34 : decode cX7_open 34 = .ok (.dup, 1) := by decide +kernel
theorem dX7_open_35 : decode cX7_open 35 = .ok (.ldc 63, 2) := by decide +kernel
theorem dX7_open_37 : decode cX7_open 37 = .ok (.invokespecial 65, 3) := by decide +kernel
theorem dX7_open_40 : decode cX7_open 40 = .ok (.athrow, 1) := by decide +kernel
theorem dX7_open_41 : decode cX7_open 41 = .ok (.aload_n 0, 1) := by decide +kernel
theorem dX7_open_42 : decode cX7_open 42 = .ok (.invokevirtual 68, 3) := by decide +kernel
theorem dX7_open_45 : decode cX7_open 45 = .ok (.istore 5, 2) := by decide +kernel
theorem dX7_open_47 : decode cX7_open 47 = .ok (.iload 5, 2) := by decide +kernel
theorem dX7_open_49 : decode cX7_open 49 = .ok (.iconst (-1), 1) := by decide +kernel
theorem dX7_open_50 : decode cX7_open 50 = .ok (.if_icmp .ne 13, 3) := by decide +kernel
theorem dX7_open_53 : decode cX7_open 53 = .ok (.new 72, 3) := by decide +kernel
theorem dX7_open_56 : decode cX7_open 56 = .ok (.dup, 1) := by decide +kernel
theorem dX7_open_57 : decode cX7_open 57 = .ok (.ldc 74, 2) := by decide +kernel
theorem dX7_open_59 : decode cX7_open 59 = .ok (.invokespecial 76, 3) := by decide +kernel
theorem dX7_open_62 : decode cX7_open 62 = .ok (.athrow, 1) := by decide +kernel
theorem dX7_open_63 : decode cX7_open 63 = .ok (.aload_n 0, 1) := by decide +kernel
theorem dX7_open_64 : decode cX7_open 64 = .ok (.getfield 25, 3) := by decide +kernel
theorem dX7_open_67 : decode cX7_open 67 = .ok (.iload 5, 2) := by decide +kernel
theorem dX7_open_69 : decode cX7_open 69 = .ok (.iload_n 1, 1) := by decide +kernel
theorem dX7_open_70 : decode cX7_open 70 = .ok (.ifCond .eq 21, 3) := by decide +kernel
theorem dX7_open_73 : decode cX7_open 73 = .ok (.new 77, 3) := by decide +kernel
theorem dX7_open_76 : decode cX7_open 76 = .ok (.dup, 1) := by decide +kernel
theorem dX7_open_77 : decode cX7_open 77 = .ok (.aload_n 0, 1) := by decide +kernel
theorem dX7_open_78 : decode cX7_open 78 = .ok (.getfield 10, 3) := by decide +kernel
theorem dX7_open_81 : decode cX7_open 81 = .ok (.iload_n 2, 1) := by decide +kernel
theorem dX7_open_82 : decode cX7_open 82 = .ok (.iload_n 3, 1) := by decide +kernel
theorem dX7_open_83 : decode cX7_open 83 = .ok (.iload 4, 2) := by decide +kernel
theorem dX7_open_85 : decode cX7_open 85 = .ok (.invokespecial 79, 3) := by decide +kernel
theorem dX7_open_88 : decode cX7_open 88 = .ok (.goto 18, 3) := by decide +kernel
theorem dX7_open_91 : decode cX7_open 91 = .ok (.new 82, 3) := by decide +kernel
theorem dX7_open_94 : decode cX7_open 94 = .ok (.dup, 1) := by decide +kernel
theorem dX7_open_95 : decode cX7_open 95 = .ok (.aload_n 0, 1) := by decide +kernel
theorem dX7_open_96 : decode cX7_open 96 = .ok (.getfield 10, 3) := by decide +kernel
theorem dX7_open_99 : decode cX7_open 99 = .ok (.iload_n 2, 1) := by decide +kernel
theorem dX7_open_100 : decode cX7_open 100 = .ok (.iload_n 3, 1) := by decide +kernel
theorem dX7_open_101 : decode cX7_open 101 = .ok (.iload 4, 2) := by decide +kernel
theorem dX7_open_103 : decode cX7_open 103 = .ok (.invokespecial 84, 3) := by decide +kernel
theorem dX7_open_106 : decode cX7_open 106 = .ok (.aastore, 1) := by decide +kernel
theorem dX7_open_107 : decode cX7_open 107 = .ok (.iload 5, 2) := by decide +kernel
theorem dX7_open_109 : decode cX7_open 109 = .ok (.ireturn, 1) := by decide +kernel
theorem dX7_close_0 : decode cX7_close 0 = .ok (.aload_n 0, 1) := by decide +kernel
theorem dX7_close_1 : decode cX7_close 1 = .ok (.iload_n 1, 1) := by decide +kernel
theorem dX7_close_2 : decode cX7_close 2 = .ok (.invokevirtual 85, 3) := by decide +kernel
theorem dX7_close_5 : decode cX7_close 5 = .ok (.pop, 1) := by decide +kernel
theorem dX7_close_6 : decode cX7_close 6 = .ok (.aload_n 0, 1) := by decide +kernel
theorem dX7_close_7 : decode cX7_close 7 = .ok (.getfield 25, 3) := by decide +kernel
theorem dX7_close_10 : decode cX7_close 10 = .ok (.iload_n 1, 1) := by decide +kernel
theorem dX7_close_11 : decode cX7_close 11 = .ok (.aconst_null, 1) := by decide +kernel
theorem dX7_close_12 : decode cX7_close 12 = .ok (.aastore, 1) := by decide +kernel
theorem dX7_close_13 : decode cX7_close 13 = .ok (.return_, 1) := by decide +kernel
theorem dX7_gain_0 : decode cX7_gain 0 = .ok (.aload_n 0, 1) := by decide +kernel
theorem dX7_gain_1 : decode cX7_gain 1 = .ok (.iload_n 1, 1) := by decide +kernel
theorem dX7_gain_2 : decode cX7_gain 2 = .ok (.invokevirtual 89, 3) := by decide +kernel
theorem dX7_gain_5 : decode cX7_gain 5 = .ok (.astore 4, 2) := by decide +kernel
theorem dX7_gain_7 : decode cX7_gain 7 = .ok (.dload_n 2, 1) := by decide +kernel
theorem dX7_gain_8 : decode cX7_gain 8 = .ok (.dconst 0, 1) := by decide +kernel
theorem dX7_gain_9 : decode cX7_gain 9 = .ok (.dcmp .l, 1) := by decide +kernel
theorem dX7_gain_10 : decode cX7_gain 10 = .ok (.ifCond .lt 9, 3) := by decide +kernel
theorem dX7_gain_13 : decode cX7_gain 13 = .ok (.dload_n 2, 1) := by decide +kernel
theorem dX7_gain_14 : decode cX7_gain 14 = .ok (.dconst 1, 1) := by decide +kernel
theorem dX7_gain_15 : decode cX7_gain 15 = .ok (.dcmp .g, 1) := by decide +kernel
theorem dX7_gain_16 : decode cX7_gain 16 = .ok (.ifCond .le 13, 3) := by decide +kernel
theorem dX7_gain_19 : decode cX7_gain 19 = .ok (.new 61, 3) := by decide +kernel
theorem dX7_gain_22 : decode cX7_gain 22 = .ok (.dup, 1) := by decide +kernel
theorem dX7_gain_23 : decode cX7_gain 23 = .ok (.ldc 93, 2) := by decide +kernel
theorem dX7_gain_25 : decode cX7_gain 25 = .ok (.invokespecial 65, 3) := by decide +kernel
theorem dX7_gain_28 : decode cX7_gain 28 = .ok (.athrow, 1) := by decide +kernel
theorem dX7_gain_29 : decode cX7_gain 29 = .ok (.aload 4, 2) := by decide +kernel
theorem dX7_gain_31 : decode cX7_gain 31 = .ok (.dload_n 2, 1) := by decide +kernel
theorem dX7_gain_32 : decode cX7_gain 32 = .ok (.ldc2_w 95, 3) := by decide +kernel
theorem dX7_gain_35 : decode cX7_gain 35 = .ok (.dmul, 1) := by decide +kernel
theorem dX7_gain_36 : decode cX7_gain 36 = .ok (.d2i, 1) := by decide +kernel
theorem dX7_gain_37 : decode cX7_gain 37 = .ok (.putfield 97, 3) := by decide +kernel
theorem dX7_gain_40 : decode cX7_gain 40 = .ok (.return_, 1) := by decide +kernel
theorem dX7_start_0 : decode cX7_start 0 = .ok (.aload_n 0, 1) := by decide +kernel
theorem dX7_start_1 : decode cX7_start 1 = .ok (.iload_n 1, 1) := by decide +kernel
theorem dX7_start_2 : decode cX7_start 2 = .ok (.invokevirtual 85, 3) := by decide +kernel
theorem dX7_start_5 : decode cX7_start 5 = .ok (.astore_n 2, 1) := by decide +kernel
theorem dX7_start_6 : decode cX7_start 6 = .ok (.aload_n 2, 1) := by decide +kernel
theorem dX7_start_7 : decode cX7_start 7 = .ok (.getfield 100, 3) := by decide +kernel
theorem dX7_start_10 : decode cX7_start 10 = .ok (.ifCond .eq 21, 3) := by decide +kernel
theorem dX7_start_13 : decode cX7_start 13 = .ok (.aload_n 2, 1) := by decide +kernel
theorem dX7_start_14 : decode cX7_start 14 = .ok (.getfield 100, 3) := by decide +kernel
theorem dX7_start_17 : decode cX7_start 17 = .ok (.iconst 2, 1) := by decide +kernel
theorem dX7_start_18 : decode cX7_start 18 = .ok (.if_icmp .eq 13, 3) := by decide +kernel
theorem dX7_start_21 : decode cX7_start 21 = .ok (.new 72, 3) := by decide +kernel
theorem dX7_start_24 : decode cX7_start 24 = .ok (.dup, 1) := by decide +kernel
theorem dX7_start_25 : decode cX7_start 25 = .ok (.ldc 103, 2) := by decide +kernel
theorem dX7_start_27 : decode cX7_start 27 = .ok (.invokespecial 76, 3) := by decide +kernel
theorem dX7_start_30 : decode cX7_start 30 = .ok (.athrow, 1) := by decide +kernel
theorem dX7_start_31 : decode cX7_start 31 = .ok (.aload_n 2, 1) := by decide +kernel
theorem dX7_start_32 : decode cX7_start 32 = .ok (.iconst 1, 1) := by decide +kernel
theorem dX7_start_33 : decode cX7_start 33 = .ok (.putfield 100, 3) := by decide +kernel
theorem dX7_start_36 : decode cX7_start 36 = .ok (.return_, 1) := by decide +kernel
theorem dX7_pause_0 : decode cX7_pause 0 = .ok (.aload_n 0, 1) := by decide +kernel
theorem dX7_pause_1 : decode cX7_pause 1 = .ok (.iload_n 1, 1) := by decide +kernel
theorem dX7_pause_2 : decode cX7_pause 2 = .ok (.invokevirtual 85, 3) := by decide +kernel
theorem dX7_pause_5 : decode cX7_pause 5 = .ok (.astore_n 2, 1) := by decide +kernel
theorem dX7_pause_6 : decode cX7_pause 6 = .ok (.aload_n 2, 1) := by decide +kernel
theorem dX7_pause_7 : decode cX7_pause 7 = .ok (.invokestatic 105, 3) := by decide +kernel
theorem dX7_pause_10 : decode cX7_pause 10 = .ok (.aload_n 2, 1) := by decide +kernel
theorem dX7_pause_11 : decode cX7_pause 11 = .ok (.iconst 2, 1) := by decide +kernel
theorem dX7_pause_12 : decode cX7_pause 12 = .ok (.putfield 100, 3) := by decide +kernel
theorem dX7_pause_15 : decode cX7_pause 15 = .ok (.return_, 1) := by decide +kernel
theorem dX7_drain_0 : decode cX7_drain 0 = .ok (.aload_n 0, 1) := by decide +kernel
theorem dX7_drain_1 : decode cX7_drain 1 = .ok (.iload_n 1, 1) := by decide +kernel
theorem dX7_drain_2 : decode cX7_drain 2 = .ok (.invokevirtual 89, 3) := by decide +kernel
theorem dX7_drain_5 : decode cX7_drain 5 = .ok (.astore_n 2, 1) := by decide +kernel
theorem dX7_drain_6 : decode cX7_drain 6 = .ok (.aload_n 2, 1) := by decide +kernel
theorem dX7_drain_7 : decode cX7_drain 7 = .ok (.invokestatic 105, 3) := by decide +kernel
theorem dX7_drain_10 : decode cX7_drain 10 = .ok (.aload_n 2, 1) := by decide +kernel
theorem dX7_drain_11 : decode cX7_drain 11 = .ok (.iconst 3, 1) := by decide +kernel
theorem dX7_drain_12 : decode cX7_drain 12 = .ok (.putfield 109, 3) := by decide +kernel
theorem dX7_drain_15 : decode cX7_drain 15 = .ok (.aload_n 2, 1) := by decide +kernel
theorem dX7_drain_16 : decode cX7_drain 16 = .ok (.iconst 0, 1) := by decide +kernel
theorem dX7_drain_17 : decode cX7_drain 17 = .ok (.putfield 110, 3) := by decide +kernel
theorem dX7_drain_20 : decode cX7_drain 20 = .ok (.return_, 1) := by decide +kernel
theorem dX7_state_0 : decode cX7_state 0 = .ok (.aload_n 0, 1) := by decide +kernel
theorem dX7_state_1 : decode cX7_state 1 = .ok (.iload_n 1, 1) := by decide +kernel
theorem dX7_state_2 : decode cX7_state 2 = .ok (.invokevirtual 85, 3) := by decide +kernel
theorem dX7_state_5 : decode cX7_state 5 = .ok (.getfield 100, 3) := by decide +kernel
theorem dX7_state_8 : decode cX7_state 8 = .ok (.ireturn, 1) := by decide +kernel
theorem dX7_write_0 : decode cX7_write 0 = .ok (.aload_n 0, 1) := by decide +kernel
theorem dX7_write_1 : decode cX7_write 1 = .ok (.iload_n 1, 1) := by decide +kernel
theorem dX7_write_2 : decode cX7_write 2 = .ok (.invokevirtual 89, 3) := by decide +kernel
theorem dX7_write_5 : decode cX7_write 5 = .ok (.astore_n 3, 1) := by decide +kernel
theorem dX7_write_6 : decode cX7_write 6 = .ok (.aload_n 3, 1) := by decide +kernel
theorem dX7_write_7 : decode cX7_write 7 = .ok (.iload_n 2, 1) := by decide +kernel
theorem dX7_write_8 : decode cX7_write 8 = .ok (.invokevirtual 114, 3) := by decide +kernel
theorem dX7_write_11 : decode cX7_write 11 = .ok (.ifCond .ne 13, 3) := by decide +kernel
theorem dX7_write_14 : decode cX7_write 14 = .ok (.new 61, 3) := by decide +kernel
theorem dX7_write_17 : decode cX7_write 17 = .ok (.dup, 1) := by decide +kernel
theorem dX7_write_18 : decode cX7_write 18 = .ok (.ldc 117, 2) := by decide +kernel
theorem dX7_write_20 : decode cX7_write 20 = .ok (.invokespecial 65, 3) := by decide +kernel
theorem dX7_write_23 : decode cX7_write 23 = .ok (.athrow, 1) := by decide +kernel
theorem dX7_write_24 : decode cX7_write 24 = .ok (.aload_n 3, 1) := by decide +kernel
theorem dX7_write_25 : decode cX7_write 25 = .ok (.invokevirtual 119, 3) := by decide +kernel
theorem dX7_write_28 : decode cX7_write 28 = .ok (.ifCond .eq 13, 3) := by decide +kernel
theorem dX7_write_31 : decode cX7_write 31 = .ok (.new 72, 3) := by decide +kernel
theorem dX7_write_34 : decode cX7_write 34 = .ok (.dup, 1) := by decide +kernel
theorem dX7_write_35 : decode cX7_write 35 = .ok (.ldc 123, 2) := by decide +kernel
theorem dX7_write_37 : decode cX7_write 37 = .ok (.invokespecial 76, 3) := by decide +kernel
theorem dX7_write_40 : decode cX7_write 40 = .ok (.athrow, 1) := by decide +kernel
theorem dX7_write_41 : decode cX7_write 41 = .ok (.aload_n 3, 1) := by decide +kernel
theorem dX7_write_42 : decode cX7_write 42 = .ok (.iload_n 2, 1) := by decide +kernel
theorem dX7_write_43 : decode cX7_write 43 = .ok (.invokevirtual 125, 3) := by decide +kernel
theorem dX7_write_46 : decode cX7_write 46 = .ok (.ireturn, 1) := by decide +kernel
theorem dX7_read_0 : decode cX7_read 0 = .ok (.aload_n 0, 1) := by decide +kernel
theorem dX7_read_1 : decode cX7_read 1 = .ok (.iload_n 1, 1) := by decide +kernel
theorem dX7_read_2 : decode cX7_read 2 = .ok (.invokevirtual 128, 3) := by decide +kernel
theorem dX7_read_5 : decode cX7_read 5 = .ok (.astore_n 2, 1) := by decide +kernel
theorem dX7_read_6 : decode cX7_read 6 = .ok (.aload_n 2, 1) := by decide +kernel
theorem dX7_read_7 : decode cX7_read 7 = .ok (.invokevirtual 132, 3) := by decide +kernel
theorem dX7_read_10 : decode cX7_read 10 = .ok (.iconst 1, 1) := by decide +kernel
theorem dX7_read_11 : decode cX7_read 11 = .ok (.if_icmp .ge 13, 3) := by decide +kernel
theorem dX7_read_14 : decode cX7_read 14 = .ok (.new 72, 3) := by decide +kernel
theorem dX7_read_17 : decode cX7_read 17 = .ok (.dup, 1) := by decide +kernel
theorem dX7_read_18 : decode cX7_read 18 = .ok (.ldc 135, 2) := by decide +kernel
theorem dX7_read_20 : decode cX7_read 20 = .ok (.invokespecial 76, 3) := by decide +kernel
theorem dX7_read_23 : decode cX7_read 23 = .ok (.athrow, 1) := by decide +kernel
theorem dX7_read_24 : decode cX7_read 24 = .ok (.aload_n 2, 1) := by decide +kernel
theorem dX7_read_25 : decode cX7_read 25 = .ok (.invokevirtual 137, 3) := by decide +kernel
theorem dX7_read_28 : decode cX7_read 28 = .ok (.ireturn, 1) := by decide +kernel
theorem dX7_room_0 : decode cX7_room 0 = .ok (.aload_n 0, 1) := by decide +kernel
theorem dX7_room_1 : decode cX7_room 1 = .ok (.iload_n 1, 1) := by decide +kernel
theorem dX7_room_2 : decode cX7_room 2 = .ok (.invokevirtual 85, 3) := by decide +kernel
theorem dX7_room_5 : decode cX7_room 5 = .ok (.invokevirtual 140, 3) := by decide +kernel
theorem dX7_room_8 : decode cX7_room 8 = .ok (.ireturn, 1) := by decide +kernel
theorem dX7_ahead_0 : decode cX7_ahead 0 = .ok (.aload_n 0, 1) := by decide +kernel
theorem dX7_ahead_1 : decode cX7_ahead 1 = .ok (.iload_n 1, 1) := by decide +kernel
theorem dX7_ahead_2 : decode cX7_ahead 2 = .ok (.invokevirtual 89, 3) := by decide +kernel
theorem dX7_ahead_5 : decode cX7_ahead 5 = .ok (.invokevirtual 141, 3) := by decide +kernel
theorem dX7_ahead_8 : decode cX7_ahead 8 = .ok (.ireturn, 1) := by decide +kernel
theorem dX7_prepare_0 : decode cX7_prepare 0 = .ok (.aload_n 0, 1) := by decide +kernel
theorem dX7_prepare_1 : decode cX7_prepare 1 = .ok (.getfield 38, 3) := by decide +kernel
theorem dX7_prepare_4 : decode cX7_prepare 4 = .ok (.iconst 4, 1) := by decide +kernel
theorem dX7_prepare_5 : decode cX7_prepare 5 = .ok (.if_icmp .lt 5, 3) := by decide +kernel
theorem dX7_prepare_8 : decode cX7_prepare 8 = .ok (.iconst 0, 1) := by decide +kernel
theorem dX7_prepare_9 : decode cX7_prepare 9 = .ok (.ireturn, 1) := by decide +kernel
theorem dX7_prepare_10 : decode cX7_prepare 10 = .ok (.aload_n 0, 1) := by decide +kernel
theorem dX7_prepare_11 : decode cX7_prepare 11 = .ok (.getfield 34, 3) := by decide +kernel
theorem dX7_prepare_14 : decode cX7_prepare 14 = .ok (.aload_n 0, 1) := by decide +kernel
theorem dX7_prepare_15 : decode cX7_prepare 15 = .ok (.getfield 38, 3) := by decide +kernel
theorem dX7_prepare_18 : decode cX7_prepare 18 = .ok (.iadd, 1) := by decide +kernel
theorem dX7_prepare_19 : decode cX7_prepare 19 = .ok (.invokestatic 144, 3) := by decide +kernel
theorem dX7_prepare_22 : decode cX7_prepare 22 = .ok (.istore_n 1, 1) := by decide +kernel
theorem dX7_prepare_23 : decode cX7_prepare 23 = .ok (.aload_n 0, 1) := by decide +kernel
theorem dX7_prepare_24 : decode cX7_prepare 24 = .ok (.getfield 54, 3) := by decide +kernel
theorem dX7_prepare_27 : decode cX7_prepare 27 = .ok (.iconst 0, 1) := by decide +kernel
theorem dX7_prepare_28 : decode cX7_prepare 28 = .ok (.invokestatic 148, 3) := by decide +kernel
theorem dX7_prepare_31 : decode cX7_prepare 31 = .ok (.iconst 0, 1) := by decide +kernel
theorem dX7_prepare_32 : decode cX7_prepare 32 = .ok (.istore_n 2, 1) := by decide +kernel
theorem dX7_prepare_33 : decode cX7_prepare 33 = .ok (.iload_n 2, 1) := by decide +kernel
theorem dX7_prepare_34 : decode cX7_prepare 34 = .ok (.bipush 6, 2) := by decide +kernel
theorem dX7_prepare_36 : decode cX7_prepare 36 = .ok (.if_icmp .ge 52, 3) := by decide +kernel
theorem dX7_prepare_39 : decode cX7_prepare 39 = .ok (.aload_n 0, 1) := by decide +kernel
theorem dX7_prepare_40 : decode cX7_prepare 40 = .ok (.getfield 25, 3) := by decide +kernel
theorem dX7_prepare_43 : decode cX7_prepare 43 = .ok (.iload_n 2, 1) := by decide +kernel
theorem dX7_prepare_44 : decode cX7_prepare 44 = .ok (.aaload, 1) := by decide +kernel
theorem dX7_prepare_45 : decode cX7_prepare 45 = .ok (.astore 4, 2) := by decide +kernel
theorem dX7_prepare_47 : decode cX7_prepare 47 = .ok (.aload 4, 2) := by decide +kernel
theorem dX7_prepare_49 : decode cX7_prepare 49 = .ok (.instanceof 77, 3) := by decide +kernel
theorem dX7_prepare_52 : decode cX7_prepare 52 = .ok (.ifCond .eq 30, 3) := by decide +kernel
theorem dX7_prepare_55 : decode cX7_prepare 55 = .ok (.aload 4, 2) := by decide +kernel
theorem dX7_prepare_57 : decode cX7_prepare 57 = .ok (.checkcast 77, 3) := by decide +kernel
theorem dX7_prepare_60 : decode cX7_prepare 60 = .ok (.astore_n 3, 1) := by decide +kernel
theorem dX7_prepare_61 : decode cX7_prepare 61 = .ok (.aload_n 3, 1) := by decide +kernel
theorem dX7_prepare_62 : decode cX7_prepare 62 = .ok (.aload_n 0, 1) := by decide +kernel
theorem dX7_prepare_63 : decode cX7_prepare 63 = .ok (.getfield 51, 3) := by decide +kernel
theorem dX7_prepare_66 : decode cX7_prepare 66 = .ok (.iload_n 1, 1) := by decide +kernel
theorem dX7_prepare_67 : decode cX7_prepare 67 = .ok (.invokevirtual 154, 3) := by decide +kernel
theorem dX7_prepare_70 : decode cX7_prepare 70 = .ok (.aload_n 3, 1) := by decide +kernel
theorem dX7_prepare_71 : decode cX7_prepare 71 = .ok (.aload_n 0, 1) := by decide +kernel
theorem dX7_prepare_72 : decode cX7_prepare 72 = .ok (.getfield 51, 3) := by decide +kernel
theorem dX7_prepare_75 : decode cX7_prepare 75 = .ok (.aload_n 0, 1) := by decide +kernel
theorem dX7_prepare_76 : decode cX7_prepare 76 = .ok (.getfield 54, 3) := by decide +kernel
theorem dX7_prepare_79 : decode cX7_prepare 79 = .ok (.invokevirtual 157, 3) := by decide +kernel
theorem dX7_prepare_82 : decode cX7_prepare 82 = .ok (.iinc 2 1, 3) := by decide +kernel
theorem dX7_prepare_85 : decode cX7_prepare 85 = .ok (.goto (-52), 3) := by decide +kernel
theorem dX7_prepare_88 : decode cX7_prepare 88 = .ok (.aload_n 0, 1) := by decide +kernel
theorem dX7_prepare_89 : decode cX7_prepare 89 = .ok (.getfield 19, 3) := by decide +kernel
theorem dX7_prepare_92 : decode cX7_prepare 92 = .ok (.aload_n 0, 1) := by decide +kernel
theorem dX7_prepare_93 : decode cX7_prepare 93 = .ok (.getfield 54, 3) := by decide +kernel
theorem dX7_prepare_96 : decode cX7_prepare 96 = .ok (.aload_n 0, 1) := by decide +kernel
theorem dX7_prepare_97 : decode cX7_prepare 97 = .ok (.getfield 31, 3) := by decide +kernel
theorem dX7_prepare_100 : decode cX7_prepare 100 = .ok (.iload_n 1, 1) := by decide +kernel
theorem dX7_prepare_101 : decode cX7_prepare 101 = .ok (.aaload, 1) := by decide +kernel
theorem dX7_prepare_102 : decode cX7_prepare 102 = .ok (.invokevirtual 161, 3) := by decide +kernel
theorem dX7_prepare_105 : decode cX7_prepare 105 = .ok (.aload_n 0, 1) := by decide +kernel
theorem dX7_prepare_106 : decode cX7_prepare 106 = .ok (.dup, 1) := by decide +kernel
theorem dX7_prepare_107 : decode cX7_prepare 107 = .ok (.getfield 38, 3) := by decide +kernel
theorem dX7_prepare_110 : decode cX7_prepare 110 = .ok (.iconst 1, 1) := by decide +kernel
theorem dX7_prepare_111 : decode cX7_prepare 111 = .ok (.iadd, 1) := by decide +kernel
theorem dX7_prepare_112 : decode cX7_prepare 112 = .ok (.putfield 38, 3) := by decide +kernel
theorem dX7_prepare_115 : decode cX7_prepare 115 = .ok (.iconst 1, 1) := by decide +kernel
theorem dX7_prepare_116 : decode cX7_prepare 116 = .ok (.ireturn, 1) := by decide +kernel
theorem dX7_card_0 : decode cX7_card 0 = .ok (.aload_n 0, 1) := by decide +kernel
theorem dX7_card_1 : decode cX7_card 1 = .ok (.getfield 38, 3) := by decide +kernel
theorem dX7_card_4 : decode cX7_card 4 = .ok (.ifCond .le 7, 3) := by decide +kernel
theorem dX7_card_7 : decode cX7_card 7 = .ok (.iconst 1, 1) := by decide +kernel
theorem dX7_card_8 : decode cX7_card 8 = .ok (.goto 4, 3) := by decide +kernel
theorem dX7_card_11 : decode cX7_card 11 = .ok (.iconst 0, 1) := by decide +kernel
theorem dX7_card_12 : decode cX7_card 12 = .ok (.istore_n 1, 1) := by decide +kernel
theorem dX7_card_13 : decode cX7_card 13 = .ok (.aload_n 0, 1) := by decide +kernel
theorem dX7_card_14 : decode cX7_card 14 = .ok (.aload_n 0, 1) := by decide +kernel
theorem dX7_card_15 : decode cX7_card 15 = .ok (.getfield 44, 3) := by decide +kernel
theorem dX7_card_18 : decode cX7_card 18 = .ok (.iconst 1, 1) := by decide +kernel
theorem dX7_card_19 : decode cX7_card 19 = .ok (.iadd, 1) := by decide +kernel
theorem dX7_card_20 : decode cX7_card 20 = .ok (.invokestatic 144, 3) := by decide +kernel
theorem dX7_card_23 : decode cX7_card 23 = .ok (.putfield 44, 3) := by decide +kernel
theorem dX7_card_26 : decode cX7_card 26 = .ok (.iload_n 1, 1) := by decide +kernel
theorem dX7_card_27 : decode cX7_card 27 = .ok (.ifCond .eq 10, 3) := by decide +kernel
theorem dX7_card_30 : decode cX7_card 30 = .ok (.aload_n 0, 1) := by decide +kernel
theorem dX7_card_31 : decode cX7_card 31 = .ok (.invokevirtual 164, 3) := by decide +kernel
theorem dX7_card_34 : decode cX7_card 34 = .ok (.goto 16, 3) := by decide +kernel
theorem dX7_card_37 : decode cX7_card 37 = .ok (.aload_n 0, 1) := by decide +kernel
theorem dX7_card_38 : decode cX7_card 38 = .ok (.getfield 41, 3) := by decide +kernel
theorem dX7_card_41 : decode cX7_card 41 = .ok (.aload_n 0, 1) := by decide +kernel
theorem dX7_card_42 : decode cX7_card 42 = .ok (.getfield 44, 3) := by decide +kernel
theorem dX7_card_45 : decode cX7_card 45 = .ok (.aaload, 1) := by decide +kernel
theorem dX7_card_46 : decode cX7_card 46 = .ok (.iconst 0, 1) := by decide +kernel
theorem dX7_card_47 : decode cX7_card 47 = .ok (.invokestatic 148, 3) := by decide +kernel
theorem dX7_card_50 : decode cX7_card 50 = .ok (.aload_n 0, 1) := by decide +kernel
theorem dX7_card_51 : decode cX7_card 51 = .ok (.invokevirtual 167, 3) := by decide +kernel
theorem dX7_card_54 : decode cX7_card 54 = .ok (.iload_n 1, 1) := by decide +kernel
theorem dX7_card_55 : decode cX7_card 55 = .ok (.ireturn, 1) := by decide +kernel
theorem dX7_coming_0 : decode cX7_coming 0 = .ok (.iload_n 1, 1) := by decide +kernel
theorem dX7_coming_1 : decode cX7_coming 1 = .ok (.invokestatic 170, 3) := by decide +kernel
theorem dX7_coming_4 : decode cX7_coming 4 = .ok (.ifCond .eq 10, 3) := by decide +kernel
theorem dX7_coming_7 : decode cX7_coming 7 = .ok (.iload_n 3, 1) := by decide +kernel
theorem dX7_coming_8 : decode cX7_coming 8 = .ok (.invokestatic 173, 3) := by decide +kernel
theorem dX7_coming_11 : decode cX7_coming 11 = .ok (.ifCond .ne 13, 3) := by decide +kernel
theorem dX7_coming_14 : decode cX7_coming 14 = .ok (.new 61, 3) := by decide +kernel
theorem dX7_coming_17 : decode cX7_coming 17 = .ok (.dup, 1) := by decide +kernel
theorem dX7_coming_18 : decode cX7_coming 18 = .ok (.ldc 176, 2) := by decide +kernel
theorem dX7_coming_20 : decode cX7_coming 20 = .ok (.invokespecial 65, 3) := by decide +kernel
theorem dX7_coming_23 : decode cX7_coming 23 = .ok (.athrow, 1) := by decide +kernel
theorem dX7_coming_24 : decode cX7_coming 24 = .ok (.aload_n 0, 1) := by decide +kernel
theorem dX7_coming_25 : decode cX7_coming 25 = .ok (.getfield 47, 3) := by decide +kernel
theorem dX7_coming_28 : decode cX7_coming 28 = .ok (.iload_n 1, 1) := by decide +kernel
theorem dX7_coming_29 : decode cX7_coming 29 = .ok (.iload_n 2, 1) := by decide +kernel
theorem dX7_coming_30 : decode cX7_coming 30 = .ok (.invokestatic 178, 3) := by decide +kernel
theorem dX7_coming_33 : decode cX7_coming 33 = .ok (.iload_n 3, 1) := by decide +kernel
theorem dX7_coming_34 : decode cX7_coming 34 = .ok (.iastore, 1) := by decide +kernel
theorem dX7_coming_35 : decode cX7_coming 35 = .ok (.return_, 1) := by decide +kernel
theorem dX7_played_0 : decode cX7_played 0 = .ok (.iload_n 1, 1) := by decide +kernel
theorem dX7_played_1 : decode cX7_played 1 = .ok (.ifCond .lt 15, 3) := by decide +kernel
theorem dX7_played_4 : decode cX7_played 4 = .ok (.iload_n 1, 1) := by decide +kernel
theorem dX7_played_5 : decode cX7_played 5 = .ok (.iconst 4, 1) := by decide +kernel
theorem dX7_played_6 : decode cX7_played 6 = .ok (.if_icmp .ge 10, 3) := by decide +kernel
theorem dX7_played_9 : decode cX7_played 9 = .ok (.iload_n 2, 1) := by decide +kernel
theorem dX7_played_10 : decode cX7_played 10 = .ok (.invokestatic 170, 3) := by decide +kernel
theorem dX7_played_13 : decode cX7_played 13 = .ok (.ifCond .ne 13, 3) := by decide +kernel
theorem dX7_played_16 : decode cX7_played 16 = .ok (.new 61, 3) := by decide +kernel
theorem dX7_played_19 : decode cX7_played 19 = .ok (.dup, 1) := by decide +kernel
theorem dX7_played_20 : decode cX7_played 20 = .ok (.ldc 182, 2) := by decide +kernel
theorem dX7_played_22 : decode cX7_played 22 = .ok (.invokespecial 65, 3) := by decide +kernel
theorem dX7_played_25 : decode cX7_played 25 = .ok (.athrow, 1) := by decide +kernel
theorem dX7_played_26 : decode cX7_played 26 = .ok (.aload_n 0, 1) := by decide +kernel
theorem dX7_played_27 : decode cX7_played 27 = .ok (.getfield 41, 3) := by decide +kernel
theorem dX7_played_30 : decode cX7_played 30 = .ok (.aload_n 0, 1) := by decide +kernel
theorem dX7_played_31 : decode cX7_played 31 = .ok (.getfield 44, 3) := by decide +kernel
theorem dX7_played_34 : decode cX7_played 34 = .ok (.iload_n 1, 1) := by decide +kernel
theorem dX7_played_35 : decode cX7_played 35 = .ok (.isub, 1) := by decide +kernel
theorem dX7_played_36 : decode cX7_played 36 = .ok (.invokestatic 144, 3) := by decide +kernel
theorem dX7_played_39 : decode cX7_played 39 = .ok (.aaload, 1) := by decide +kernel
theorem dX7_played_40 : decode cX7_played 40 = .ok (.iload_n 2, 1) := by decide +kernel
theorem dX7_played_41 : decode cX7_played 41 = .ok (.iload_n 3, 1) := by decide +kernel
theorem dX7_played_42 : decode cX7_played 42 = .ok (.invokestatic 178, 3) := by decide +kernel
theorem dX7_played_45 : decode cX7_played 45 = .ok (.iaload, 1) := by decide +kernel
theorem dX7_played_46 : decode cX7_played 46 = .ok (.ireturn, 1) := by decide +kernel
theorem dX7_position_0 : decode cX7_position 0 = .ok (.aload_n 0, 1) := by decide +kernel
theorem dX7_position_1 : decode cX7_position 1 = .ok (.iload_n 1, 1) := by decide +kernel
theorem dX7_position_2 : decode cX7_position 2 = .ok (.invokevirtual 85, 3) := by decide +kernel
theorem dX7_position_5 : decode cX7_position 5 = .ok (.invokevirtual 184, 3) := by decide +kernel
theorem dX7_position_8 : decode cX7_position 8 = .ok (.l2i, 1) := by decide +kernel
theorem dX7_position_9 : decode cX7_position 9 = .ok (.ireturn, 1) := by decide +kernel
theorem dX7_late_0 : decode cX7_late 0 = .ok (.aload_n 0, 1) := by decide +kernel
theorem dX7_late_1 : decode cX7_late 1 = .ok (.iload_n 1, 1) := by decide +kernel
theorem dX7_late_2 : decode cX7_late 2 = .ok (.invokevirtual 85, 3) := by decide +kernel
theorem dX7_late_5 : decode cX7_late 5 = .ok (.getfield 188, 3) := by decide +kernel
theorem dX7_late_8 : decode cX7_late 8 = .ok (.ireturn, 1) := by decide +kernel
theorem dX7_level_0 : decode cX7_level 0 = .ok (.aload_n 0, 1) := by decide +kernel
theorem dX7_level_1 : decode cX7_level 1 = .ok (.iload_n 1, 1) := by decide +kernel
theorem dX7_level_2 : decode cX7_level 2 = .ok (.invokevirtual 89, 3) := by decide +kernel
theorem dX7_level_5 : decode cX7_level 5 = .ok (.getfield 191, 3) := by decide +kernel
theorem dX7_level_8 : decode cX7_level 8 = .ok (.l2d, 1) := by decide +kernel
theorem dX7_level_9 : decode cX7_level 9 = .ok (.ldc2_w 195, 3) := by decide +kernel
theorem dX7_level_12 : decode cX7_level 12 = .ok (.ddiv, 1) := by decide +kernel
theorem dX7_level_13 : decode cX7_level 13 = .ok (.dreturn, 1) := by decide +kernel
theorem dX7_clipped_0 : decode cX7_clipped 0 = .ok (.aload_n 0, 1) := by decide +kernel
theorem dX7_clipped_1 : decode cX7_clipped 1 = .ok (.getfield 19, 3) := by decide +kernel
theorem dX7_clipped_4 : decode cX7_clipped 4 = .ok (.getfield 197, 3) := by decide +kernel
theorem dX7_clipped_7 : decode cX7_clipped 7 = .ok (.ireturn, 1) := by decide +kernel
theorem dX7_limit_0 : decode cX7_limit 0 = .ok (.aload_n 0, 1) := by decide +kernel
theorem dX7_limit_1 : decode cX7_limit 1 = .ok (.getfield 19, 3) := by decide +kernel
theorem dX7_limit_4 : decode cX7_limit 4 = .ok (.getfield 200, 3) := by decide +kernel
theorem dX7_limit_7 : decode cX7_limit 7 = .ok (.istore_n 2, 1) := by decide +kernel
theorem dX7_limit_8 : decode cX7_limit 8 = .ok (.aload_n 0, 1) := by decide +kernel
theorem dX7_limit_9 : decode cX7_limit 9 = .ok (.getfield 19, 3) := by decide +kernel
theorem dX7_limit_12 : decode cX7_limit 12 = .ok (.iload_n 1, 1) := by decide +kernel
theorem dX7_limit_13 : decode cX7_limit 13 = .ok (.putfield 200, 3) := by decide +kernel
theorem dX7_limit_16 : decode cX7_limit 16 = .ok (.iload_n 2, 1) := by decide +kernel
theorem dX7_limit_17 : decode cX7_limit 17 = .ok (.ireturn, 1) := by decide +kernel
theorem dX7_value_0 : decode cX7_value 0 = .ok (.aload_n 0, 1) := by decide +kernel
theorem dX7_value_1 : decode cX7_value 1 = .ok (.getfield 19, 3) := by decide +kernel
theorem dX7_value_4 : decode cX7_value 4 = .ok (.getfield 203, 3) := by decide +kernel
theorem dX7_value_7 : decode cX7_value 7 = .ok (.ireturn, 1) := by decide +kernel
theorem dX7_tap_0 : decode cX7_tap 0 = .ok (.iload_n 1, 1) := by decide +kernel
theorem dX7_tap_1 : decode cX7_tap 1 = .ok (.ifCond .lt 19, 3) := by decide +kernel
theorem dX7_tap_4 : decode cX7_tap 4 = .ok (.iload_n 1, 1) := by decide +kernel
theorem dX7_tap_5 : decode cX7_tap 5 = .ok (.bipush 32, 2) := by decide +kernel
theorem dX7_tap_7 : decode cX7_tap 7 = .ok (.if_icmp .ge 13, 3) := by decide +kernel
theorem dX7_tap_10 : decode cX7_tap 10 = .ok (.iload_n 2, 1) := by decide +kernel
theorem dX7_tap_11 : decode cX7_tap 11 = .ok (.ifCond .lt 9, 3) := by decide +kernel
theorem dX7_tap_14 : decode cX7_tap 14 = .ok (.iload_n 2, 1) := by decide +kernel
theorem dX7_tap_15 : decode cX7_tap 15 = .ok (.bipush 16, 2) := by decide +kernel
theorem dX7_tap_17 : decode cX7_tap 17 = .ok (.if_icmp .lt 13, 3) := by decide +kernel
theorem dX7_tap_20 : decode cX7_tap 20 = .ok (.new 61, 3) := by decide +kernel
theorem dX7_tap_23 : decode cX7_tap 23 = .ok (.dup, 1) := by decide +kernel
theorem dX7_tap_24 : decode cX7_tap 24 = .ok (.ldc 206, 2) := by decide +kernel
theorem dX7_tap_26 : decode cX7_tap 26 = .ok (.invokespecial 65, 3) := by decide +kernel
theorem dX7_tap_29 : decode cX7_tap 29 = .ok (.athrow, 1) := by decide +kernel
theorem dX7_tap_30 : decode cX7_tap 30 = .ok (.aload_n 0, 1) := by decide +kernel
theorem dX7_tap_31 : decode cX7_tap 31 = .ok (.getfield 10, 3) := by decide +kernel
theorem dX7_tap_34 : decode cX7_tap 34 = .ok (.iload_n 1, 1) := by decide +kernel
theorem dX7_tap_35 : decode cX7_tap 35 = .ok (.iload_n 2, 1) := by decide +kernel
theorem dX7_tap_36 : decode cX7_tap 36 = .ok (.invokevirtual 208, 3) := by decide +kernel
theorem dX7_tap_39 : decode cX7_tap 39 = .ok (.ireturn, 1) := by decide +kernel
theorem dX7_requireClient_0 : decode cX7_requireClient 0 = .ok (.iload_n 1, 1) := by decide +kernel
theorem dX7_requireClient_1 : decode cX7_requireClient 1 = .ok (.ifCond .lt 18, 3) := by decide +kernel
theorem dX7_requireClient_4 : decode cX7_requireClient 4 = .ok (.iload_n 1, 1) := by decide +kernel
theorem dX7_requireClient_5 : decode cX7_requireClient 5 = .ok (.bipush 6, 2) := by decide +kernel
theorem dX7_requireClient_7 : decode cX7_requireClient 7 = .ok (.if_icmp .ge 12, 3) := by decide +kernel
theorem dX7_requireClient_10 : decode cX7_requireClient 10 = .ok (.aload_n 0, 1) := by decide +kernel
theorem dX7_requireClient_11 : decode cX7_requireClient 11 = .ok (.getfield 25, 3) := by decide +kernel
theorem dX7_requireClient_14 : decode cX7_requireClient 14 = .ok (.iload_n 1, 1) := by decide +kernel
theorem dX7_requireClient_15 : decode cX7_requireClient 15 = .ok (.aaload, 1) := by decide +kernel
theorem dX7_requireClient_16 : decode cX7_requireClient 16 = .ok (.ifnonnull 13, 3) := by decide +kernel
theorem dX7_requireClient_19 : decode cX7_requireClient 19 = .ok (.new 61, 3) := by decide +kernel
theorem dX7_requireClient_22 : decode cX7_requireClient 22 = .ok (.dup, 1) := by decide +kernel
theorem dX7_requireClient_23 : decode cX7_requireClient 23 = .ok (.ldc 212, 2) := by decide +kernel
theorem dX7_requireClient_25 : decode cX7_requireClient 25 = .ok (.invokespecial 65, 3) := by decide +kernel
theorem dX7_requireClient_28 : decode cX7_requireClient 28 = .ok (.athrow, 1) := by decide +kernel
theorem dX7_requireClient_29 : decode cX7_requireClient 29 = .ok (.aload_n 0, 1) := by decide +kernel
theorem dX7_requireClient_30 : decode cX7_requireClient 30 = .ok (.getfield 25, 3) := by decide +kernel
theorem dX7_requireClient_33 : decode cX7_requireClient 33 = .ok (.iload_n 1, 1) := by decide +kernel
theorem dX7_requireClient_34 : decode cX7_requireClient 34 = .ok (.aaload, 1) := by decide +kernel
theorem dX7_requireClient_35 : decode cX7_requireClient 35 = .ok (.areturn, 1) := by decide +kernel
theorem dX7_requirePlayer_0 : decode cX7_requirePlayer 0 = .ok (.aload_n 0, 1) := by decide +kernel
theorem dX7_requirePlayer_1 : decode cX7_requirePlayer 1 = .ok (.iload_n 1, 1) := by decide +kernel
theorem dX7_requirePlayer_2 : decode cX7_requirePlayer 2 = .ok (.invokevirtual 85, 3) := by decide +kernel
theorem dX7_requirePlayer_5 : decode cX7_requirePlayer 5 = .ok (.astore_n 3, 1) := by decide +kernel
theorem dX7_requirePlayer_6 : decode cX7_requirePlayer 6 = .ok (.aload_n 3, 1) := by decide +kernel
theorem dX7_requirePlayer_7 : decode cX7_requirePlayer 7 = .ok (.instanceof 77, 3) := by decide +kernel
theorem dX7_requirePlayer_10 : decode cX7_requirePlayer 10 = .ok (.ifCond .eq 10, 3) := by decide +kernel
theorem dX7_requirePlayer_13 : decode cX7_requirePlayer 13 = .ok (.aload_n 3, 1) := by decide +kernel
theorem dX7_requirePlayer_14 : decode cX7_requirePlayer 14 = .ok (.checkcast 77, 3) := by decide +kernel
theorem dX7_requirePlayer_17 : decode cX7_requirePlayer 17 = .ok (.astore_n 2, 1) := by decide +kernel
theorem dX7_requirePlayer_18 : decode cX7_requirePlayer 18 = .ok (.aload_n 2, 1) := by decide +kernel
theorem dX7_requirePlayer_19 : decode cX7_requirePlayer 19 = .ok (.areturn, 1) := by decide +kernel
theorem dX7_requirePlayer_20 : decode cX7_requirePlayer 20 = .ok (.new 61, 3) := by decide +kernel
theorem dX7_requirePlayer_23 : decode cX7_requirePlayer 23 = .ok (.dup, 1) := by decide +kernel
theorem dX7_requirePlayer_24 : decode cX7_requirePlayer 24 = .ok (.ldc 214, 2) := by decide +kernel
theorem dX7_requirePlayer_26 : decode cX7_requirePlayer 26 = .ok (.invokespecial 65, 3) := by decide +kernel
theorem dX7_requirePlayer_29 : decode cX7_requirePlayer 29 = .ok (.athrow, 1) := by decide +kernel
theorem dX7_requireListener_0 : decode cX7_requireListener 0 = .ok (.aload_n 0, 1) := by decide +kernel
theorem dX7_requireListener_1 : decode cX7_requireListener 1 = .ok (.iload_n 1, 1) := by decide +kernel
theorem dX7_requireListener_2 : decode cX7_requireListener 2 = .ok (.invokevirtual 85, 3) := by decide +kernel
theorem dX7_requireListener_5 : decode cX7_requireListener 5 = .ok (.astore_n 3, 1) := by decide +kernel
theorem dX7_requireListener_6 : decode cX7_requireListener 6 = .ok (.aload_n 3, 1) := by decide +kernel
theorem dX7_requireListener_7 : decode cX7_requireListener 7 = .ok (.instanceof 82, 3) := by decide +kernel
theorem dX7_requireListener_10 : decode cX7_requireListener 10 = .ok (.ifCond .eq 10, 3) := by decide +kernel
theorem dX7_requireListener_13 : decode cX7_requireListener 13 = .ok (.aload_n 3, 1) := by decide +kernel
theorem dX7_requireListener_14 : decode cX7_requireListener 14 = .ok (.checkcast 82, 3) := by decide +kernel
theorem dX7_requireListener_17 : decode cX7_requireListener 17 = .ok (.astore_n 2, 1) := by decide +kernel
theorem dX7_requireListener_18 : decode cX7_requireListener 18 = .ok (.aload_n 2, 1) := by decide +kernel
theorem dX7_requireListener_19 : decode cX7_requireListener 19 = .ok (.areturn, 1) := by decide +kernel
theorem dX7_requireListener_20 : decode cX7_requireListener 20 = .ok (.new 61, 3) := by decide +kernel
theorem dX7_requireListener_23 : decode cX7_requireListener 23 = .ok (.dup, 1) := by decide +kernel
theorem dX7_requireListener_24 : decode cX7_requireListener 24 = .ok (.ldc 216, 2) := by decide +kernel
theorem dX7_requireListener_26 : decode cX7_requireListener 26 = .ok (.invokespecial 65, 3) := by decide +kernel
theorem dX7_requireListener_29 : decode cX7_requireListener 29 = .ok (.athrow, 1) := by decide +kernel
theorem dX7_requireRunning_0 : decode cX7_requireRunning 0 = .ok (.aload_n 0, 1) := by decide +kernel
theorem dX7_requireRunning_1 : decode cX7_requireRunning 1 = .ok (.getfield 100, 3) := by decide +kernel
theorem dX7_requireRunning_4 : decode cX7_requireRunning 4 = .ok (.iconst 1, 1) := by decide +kernel
theorem dX7_requireRunning_5 : decode cX7_requireRunning 5 = .ok (.if_icmp .eq 13, 3) := by decide +kernel
theorem dX7_requireRunning_8 : decode cX7_requireRunning 8 = .ok (.new 72, 3) := by decide +kernel
theorem dX7_requireRunning_11 : decode cX7_requireRunning 11 = .ok (.dup, 1) := by decide +kernel
theorem dX7_requireRunning_12 : decode cX7_requireRunning 12 = .ok (.ldc 218, 2) := by decide +kernel
theorem dX7_requireRunning_14 : decode cX7_requireRunning 14 = .ok (.invokespecial 76, 3) := by decide +kernel
theorem dX7_requireRunning_17 : decode cX7_requireRunning 17 = .ok (.athrow, 1) := by decide +kernel
theorem dX7_requireRunning_18 : decode cX7_requireRunning 18 = .ok (.return_, 1) := by decide +kernel
theorem dX7_leastFree_0 : decode cX7_leastFree 0 = .ok (.iconst 0, 1) := by decide +kernel
theorem dX7_leastFree_1 : decode cX7_leastFree 1 = .ok (.istore_n 1, 1) := by decide +kernel
theorem dX7_leastFree_2 : decode cX7_leastFree 2 = .ok (.iload_n 1, 1) := by decide +kernel
theorem dX7_leastFree_3 : decode cX7_leastFree 3 = .ok (.bipush 6, 2) := by decide +kernel
theorem dX7_leastFree_5 : decode cX7_leastFree 5 = .ok (.if_icmp .ge 20, 3) := by decide +kernel
theorem dX7_leastFree_8 : decode cX7_leastFree 8 = .ok (.aload_n 0, 1) := by decide +kernel
theorem dX7_leastFree_9 : decode cX7_leastFree 9 = .ok (.getfield 25, 3) := by decide +kernel
theorem dX7_leastFree_12 : decode cX7_leastFree 12 = .ok (.iload_n 1, 1) := by decide +kernel
theorem dX7_leastFree_13 : decode cX7_leastFree 13 = .ok (.aaload, 1) := by decide +kernel
theorem dX7_leastFree_14 : decode cX7_leastFree 14 = .ok (.ifnonnull 5, 3) := by decide +kernel
theorem dX7_leastFree_17 : decode cX7_leastFree 17 = .ok (.iload_n 1, 1) := by decide +kernel
theorem dX7_leastFree_18 : decode cX7_leastFree 18 = .ok (.ireturn, 1) := by decide +kernel
theorem dX7_leastFree_19 : decode cX7_leastFree 19 = .ok (.iinc 1 1, 3) := by decide +kernel
theorem dX7_leastFree_22 : decode cX7_leastFree 22 = .ok (.goto (-20), 3) := by decide +kernel
theorem dX7_leastFree_25 : decode cX7_leastFree 25 = .ok (.iconst (-1), 1) := by decide +kernel
theorem dX7_leastFree_26 : decode cX7_leastFree 26 = .ok (.ireturn, 1) := by decide +kernel
theorem dX7_playOldest_0 : decode cX7_playOldest 0 = .ok (.aload_n 0, 1) := by decide +kernel
theorem dX7_playOldest_1 : decode cX7_playOldest 1 = .ok (.getfield 31, 3) := by decide +kernel
theorem dX7_playOldest_4 : decode cX7_playOldest 4 = .ok (.aload_n 0, 1) := by decide +kernel
theorem dX7_playOldest_5 : decode cX7_playOldest 5 = .ok (.getfield 34, 3) := by decide +kernel
theorem dX7_playOldest_8 : decode cX7_playOldest 8 = .ok (.aaload, 1) := by decide +kernel
theorem dX7_playOldest_9 : decode cX7_playOldest 9 = .ok (.iconst 0, 1) := by decide +kernel
theorem dX7_playOldest_10 : decode cX7_playOldest 10 = .ok (.aload_n 0, 1) := by decide +kernel
theorem dX7_playOldest_11 : decode cX7_playOldest 11 = .ok (.getfield 41, 3) := by decide +kernel
theorem dX7_playOldest_14 : decode cX7_playOldest 14 = .ok (.aload_n 0, 1) := by decide +kernel
theorem dX7_playOldest_15 : decode cX7_playOldest 15 = .ok (.getfield 44, 3) := by decide +kernel
theorem dX7_playOldest_18 : decode cX7_playOldest 18 = .ok (.aaload, 1) := by decide +kernel
theorem dX7_playOldest_19 : decode cX7_playOldest 19 = .ok (.iconst 0, 1) := by decide +kernel
theorem dX7_playOldest_20 : decode cX7_playOldest 20 = .ok (.bipush 48, 2) := by decide +kernel
theorem dX7_playOldest_22 : decode cX7_playOldest 22 = .ok (.invokestatic 220, 3) := by decide +kernel
theorem dX7_playOldest_25 : decode cX7_playOldest 25 = .ok (.iconst 0, 1) := by decide +kernel
theorem dX7_playOldest_26 : decode cX7_playOldest 26 = .ok (.istore_n 1, 1) := by decide +kernel
theorem dX7_playOldest_27 : decode cX7_playOldest 27 = .ok (.iload_n 1, 1) := by decide +kernel
theorem dX7_playOldest_28 : decode cX7_playOldest 28 = .ok (.bipush 6, 2) := by decide +kernel
theorem dX7_playOldest_30 : decode cX7_playOldest 30 = .ok (.if_icmp .ge 36, 3) := by decide +kernel
theorem dX7_playOldest_33 : decode cX7_playOldest 33 = .ok (.aload_n 0, 1) := by decide +kernel
theorem dX7_playOldest_34 : decode cX7_playOldest 34 = .ok (.getfield 25, 3) := by decide +kernel
theorem dX7_playOldest_37 : decode cX7_playOldest 37 = .ok (.iload_n 1, 1) := by decide +kernel
theorem dX7_playOldest_38 : decode cX7_playOldest 38 = .ok (.aaload, 1) := by decide +kernel
theorem dX7_playOldest_39 : decode cX7_playOldest 39 = .ok (.astore_n 3, 1) := by decide +kernel
theorem dX7_playOldest_40 : decode cX7_playOldest 40 = .ok (.aload_n 3, 1) := by decide +kernel
theorem dX7_playOldest_41 : decode cX7_playOldest 41 = .ok (.instanceof 77, 3) := by decide +kernel
theorem dX7_playOldest_44 : decode cX7_playOldest 44 = .ok (.ifCond .eq 16, 3) := by decide +kernel
theorem dX7_playOldest_47 : decode cX7_playOldest 47 = .ok (.aload_n 3, 1) := by decide +kernel
theorem dX7_playOldest_48 : decode cX7_playOldest 48 = .ok (.checkcast 77, 3) := by decide +kernel
theorem dX7_playOldest_51 : decode cX7_playOldest 51 = .ok (.astore_n 2, 1) := by decide +kernel
theorem dX7_playOldest_52 : decode cX7_playOldest 52 = .ok (.aload_n 2, 1) := by decide +kernel
theorem dX7_playOldest_53 : decode cX7_playOldest 53 = .ok (.aload_n 0, 1) := by decide +kernel
theorem dX7_playOldest_54 : decode cX7_playOldest 54 = .ok (.getfield 34, 3) := by decide +kernel
theorem dX7_playOldest_57 : decode cX7_playOldest 57 = .ok (.invokevirtual 226, 3) := by decide +kernel
theorem dX7_playOldest_60 : decode cX7_playOldest 60 = .ok (.iinc 1 1, 3) := by decide +kernel
theorem dX7_playOldest_63 : decode cX7_playOldest 63 = .ok (.goto (-36), 3) := by decide +kernel
theorem dX7_playOldest_66 : decode cX7_playOldest 66 = .ok (.aload_n 0, 1) := by decide +kernel
theorem dX7_playOldest_67 : decode cX7_playOldest 67 = .ok (.aload_n 0, 1) := by decide +kernel
theorem dX7_playOldest_68 : decode cX7_playOldest 68 = .ok (.getfield 34, 3) := by decide +kernel
theorem dX7_playOldest_71 : decode cX7_playOldest 71 = .ok (.iconst 1, 1) := by decide +kernel
theorem dX7_playOldest_72 : decode cX7_playOldest 72 = .ok (.iadd, 1) := by decide +kernel
theorem dX7_playOldest_73 : decode cX7_playOldest 73 = .ok (.invokestatic 144, 3) := by decide +kernel
theorem dX7_playOldest_76 : decode cX7_playOldest 76 = .ok (.putfield 34, 3) := by decide +kernel
theorem dX7_playOldest_79 : decode cX7_playOldest 79 = .ok (.aload_n 0, 1) := by decide +kernel
theorem dX7_playOldest_80 : decode cX7_playOldest 80 = .ok (.dup, 1) := by decide +kernel
theorem dX7_playOldest_81 : decode cX7_playOldest 81 = .ok (.getfield 38, 3) := by decide +kernel
theorem dX7_playOldest_84 : decode cX7_playOldest 84 = .ok (.iconst 1, 1) := by decide +kernel
theorem dX7_playOldest_85 : decode cX7_playOldest 85 = .ok (.isub, 1) := by decide +kernel
theorem dX7_playOldest_86 : decode cX7_playOldest 86 = .ok (.putfield 38, 3) := by decide +kernel
theorem dX7_playOldest_89 : decode cX7_playOldest 89 = .ok (.return_, 1) := by decide +kernel
theorem dX7_captureIncoming_0 : decode cX7_captureIncoming 0 = .ok (.iconst 0, 1) := by decide +kernel
theorem dX7_captureIncoming_1 : decode cX7_captureIncoming 1 = .ok (.istore_n 1, 1) := by decide +kernel
theorem dX7_captureIncoming_2 : decode cX7_captureIncoming 2 = .ok (.iload_n 1, 1) := by decide +kernel
theorem dX7_captureIncoming_3 : decode cX7_captureIncoming 3 = .ok (.bipush 6, 2) := by decide +kernel
theorem dX7_captureIncoming_5 : decode cX7_captureIncoming 5 = .ok (.if_icmp .ge 44, 3) := by decide +kernel
theorem dX7_captureIncoming_8 : decode cX7_captureIncoming 8 = .ok (.aload_n 0, 1) := by decide +kernel
theorem dX7_captureIncoming_9 : decode cX7_captureIncoming 9 = .ok (.getfield 25, 3) := by decide +kernel
theorem dX7_captureIncoming_12 : decode cX7_captureIncoming 12 = .ok (.iload_n 1, 1) := by decide +kernel
theorem dX7_captureIncoming_13 : decode cX7_captureIncoming 13 = .ok (.aaload, 1) := by decide +kernel
theorem dX7_captureIncoming_14 : decode cX7_captureIncoming 14 = .ok (.astore_n 3, 1) := by decide +kernel
theorem dX7_captureIncoming_15 : decode cX7_captureIncoming 15 = .ok (.aload_n 3, 1) := by decide +kernel
theorem dX7_captureIncoming_16 : decode cX7_captureIncoming 16 = .ok (.instanceof 82, 3) := by decide +kernel
theorem dX7_captureIncoming_19 : decode cX7_captureIncoming 19 = .ok (.ifCond .eq 24, 3) := by decide +kernel
theorem dX7_captureIncoming_22 : decode cX7_captureIncoming 22 = .ok (.aload_n 3, 1) := by decide +kernel
theorem dX7_captureIncoming_23 : decode cX7_captureIncoming 23 = .ok (.checkcast 82, 3) := by decide +kernel
theorem dX7_captureIncoming_26 : decode cX7_captureIncoming 26 = .ok (.astore_n 2, 1) := by decide +kernel
theorem dX7_captureIncoming_27 : decode cX7_captureIncoming 27 = .ok (.aload_n 2, 1) := by decide +kernel
theorem dX7_captureIncoming_28 : decode cX7_captureIncoming 28 = .ok (.getfield 230, 3) := by decide +kernel
theorem dX7_captureIncoming_31 : decode cX7_captureIncoming 31 = .ok (.iconst 1, 1) := by decide +kernel
theorem dX7_captureIncoming_32 : decode cX7_captureIncoming 32 = .ok (.if_icmp .ne 11, 3) := by decide +kernel
theorem dX7_captureIncoming_35 : decode cX7_captureIncoming 35 = .ok (.aload_n 2, 1) := by decide +kernel
theorem dX7_captureIncoming_36 : decode cX7_captureIncoming 36 = .ok (.aload_n 0, 1) := by decide +kernel
theorem dX7_captureIncoming_37 : decode cX7_captureIncoming 37 = .ok (.getfield 47, 3) := by decide +kernel
theorem dX7_captureIncoming_40 : decode cX7_captureIncoming 40 = .ok (.invokevirtual 231, 3) := by decide +kernel
theorem dX7_captureIncoming_43 : decode cX7_captureIncoming 43 = .ok (.iinc 1 1, 3) := by decide +kernel
theorem dX7_captureIncoming_46 : decode cX7_captureIncoming 46 = .ok (.goto (-44), 3) := by decide +kernel
theorem dX7_captureIncoming_49 : decode cX7_captureIncoming 49 = .ok (.aload_n 0, 1) := by decide +kernel
theorem dX7_captureIncoming_50 : decode cX7_captureIncoming 50 = .ok (.getfield 47, 3) := by decide +kernel
theorem dX7_captureIncoming_53 : decode cX7_captureIncoming 53 = .ok (.iconst 0, 1) := by decide +kernel
theorem dX7_captureIncoming_54 : decode cX7_captureIncoming 54 = .ok (.invokestatic 148, 3) := by decide +kernel
theorem dX7_captureIncoming_57 : decode cX7_captureIncoming 57 = .ok (.return_, 1) := by decide +kernel
theorem dX7_isRate_0 : decode cX7_isRate 0 = .ok (.getstatic 235, 3) := by decide +kernel
theorem dX7_isRate_3 : decode cX7_isRate 3 = .ok (.astore_n 1, 1) := by decide +kernel
theorem dX7_isRate_4 : decode cX7_isRate 4 = .ok (.aload_n 1, 1) := by decide +kernel
theorem dX7_isRate_5 : decode cX7_isRate 5 = .ok (.arraylength, 1) := by decide +kernel
theorem dX7_isRate_6 : decode cX7_isRate 6 = .ok (.istore_n 2, 1) := by decide +kernel
theorem dX7_isRate_7 : decode cX7_isRate 7 = .ok (.iconst 0, 1) := by decide +kernel
theorem dX7_isRate_8 : decode cX7_isRate 8 = .ok (.istore_n 3, 1) := by decide +kernel
theorem dX7_isRate_9 : decode cX7_isRate 9 = .ok (.iload_n 3, 1) := by decide +kernel
theorem dX7_isRate_10 : decode cX7_isRate 10 = .ok (.iload_n 2, 1) := by decide +kernel
theorem dX7_isRate_11 : decode cX7_isRate 11 = .ok (.if_icmp .ge 22, 3) := by decide +kernel
theorem dX7_isRate_14 : decode cX7_isRate 14 = .ok (.aload_n 1, 1) := by decide +kernel
theorem dX7_isRate_15 : decode cX7_isRate 15 = .ok (.iload_n 3, 1) := by decide +kernel
theorem dX7_isRate_16 : decode cX7_isRate 16 = .ok (.iaload, 1) := by decide +kernel
theorem dX7_isRate_17 : decode cX7_isRate 17 = .ok (.istore 4, 2) := by decide +kernel
theorem dX7_isRate_19 : decode cX7_isRate 19 = .ok (.iload 4, 2) := by decide +kernel
theorem dX7_isRate_21 : decode cX7_isRate 21 = .ok (.iload_n 0, 1) := by decide +kernel
theorem dX7_isRate_22 : decode cX7_isRate 22 = .ok (.if_icmp .ne 5, 3) := by decide +kernel
theorem dX7_isRate_25 : decode cX7_isRate 25 = .ok (.iconst 1, 1) := by decide +kernel
theorem dX7_isRate_26 : decode cX7_isRate 26 = .ok (.ireturn, 1) := by decide +kernel
theorem dX7_isRate_27 : decode cX7_isRate 27 = .ok (.iinc 3 1, 3) := by decide +kernel
theorem dX7_isRate_30 : decode cX7_isRate 30 = .ok (.goto (-21), 3) := by decide +kernel
theorem dX7_isRate_33 : decode cX7_isRate 33 = .ok (.iconst 0, 1) := by decide +kernel
theorem dX7_isRate_34 : decode cX7_isRate 34 = .ok (.ireturn, 1) := by decide +kernel
theorem dX7_isFrame_0 : decode cX7_isFrame 0 = .ok (.iload_n 0, 1) := by decide +kernel
theorem dX7_isFrame_1 : decode cX7_isFrame 1 = .ok (.ifCond .lt 13, 3) := by decide +kernel
theorem dX7_isFrame_4 : decode cX7_isFrame 4 = .ok (.iload_n 0, 1) := by decide +kernel
theorem dX7_isFrame_5 : decode cX7_isFrame 5 = .ok (.bipush 24, 2) := by decide +kernel
theorem dX7_isFrame_7 : decode cX7_isFrame 7 = .ok (.if_icmp .ge 7, 3) := by decide +kernel
theorem dX7_isFrame_10 : decode cX7_isFrame 10 = .ok (.iconst 1, 1) := by decide +kernel
theorem dX7_isFrame_11 : decode cX7_isFrame 11 = .ok (.goto 4, 3) := by decide +kernel
theorem dX7_isFrame_14 : decode cX7_isFrame 14 = .ok (.iconst 0, 1) := by decide +kernel
theorem dX7_isFrame_15 : decode cX7_isFrame 15 = .ok (.ireturn, 1) := by decide +kernel
theorem dX7_isSample_0 : decode cX7_isSample 0 = .ok (.iload_n 0, 1) := by decide +kernel
theorem dX7_isSample_1 : decode cX7_isSample 1 = .ok (.sipush (-32768), 3) := by decide +kernel
theorem dX7_isSample_4 : decode cX7_isSample 4 = .ok (.if_icmp .lt 14, 3) := by decide +kernel
theorem dX7_isSample_7 : decode cX7_isSample 7 = .ok (.iload_n 0, 1) := by decide +kernel
theorem dX7_isSample_8 : decode cX7_isSample 8 = .ok (.sipush 32767, 3) := by decide +kernel
theorem dX7_isSample_11 : decode cX7_isSample 11 = .ok (.if_icmp .gt 7, 3) := by decide +kernel
theorem dX7_isSample_14 : decode cX7_isSample 14 = .ok (.iconst 1, 1) := by decide +kernel
theorem dX7_isSample_15 : decode cX7_isSample 15 = .ok (.goto 4, 3) := by decide +kernel
theorem dX7_isSample_18 : decode cX7_isSample 18 = .ok (.iconst 0, 1) := by decide +kernel
theorem dX7_isSample_19 : decode cX7_isSample 19 = .ok (.ireturn, 1) := by decide +kernel
theorem dX7_sampleIndex_0 : decode cX7_sampleIndex 0 = .ok (.iconst 2, 1) := by decide +kernel
theorem dX7_sampleIndex_1 : decode cX7_sampleIndex 1 = .ok (.iload_n 0, 1) := by decide +kernel
theorem dX7_sampleIndex_2 : decode cX7_sampleIndex 2 = .ok (.imul, 1) := by decide +kernel
theorem dX7_sampleIndex_3 : decode cX7_sampleIndex 3 = .ok (.iload_n 1, 1) := by decide +kernel
theorem dX7_sampleIndex_4 : decode cX7_sampleIndex 4 = .ok (.ifCond .eq 7, 3) := by decide +kernel
theorem dX7_sampleIndex_7 : decode cX7_sampleIndex 7 = .ok (.iconst 1, 1) := by decide +kernel
theorem dX7_sampleIndex_8 : decode cX7_sampleIndex 8 = .ok (.goto 4, 3) := by decide +kernel
theorem dX7_sampleIndex_11 : decode cX7_sampleIndex 11 = .ok (.iconst 0, 1) := by decide +kernel
theorem dX7_sampleIndex_12 : decode cX7_sampleIndex 12 = .ok (.iadd, 1) := by decide +kernel
theorem dX7_sampleIndex_13 : decode cX7_sampleIndex 13 = .ok (.ireturn, 1) := by decide +kernel
theorem dX7_slotOf_0 : decode cX7_slotOf 0 = .ok (.iload_n 0, 1) := by decide +kernel
theorem dX7_slotOf_1 : decode cX7_slotOf 1 = .ok (.iconst 4, 1) := by decide +kernel
theorem dX7_slotOf_2 : decode cX7_slotOf 2 = .ok (.invokestatic 238, 3) := by decide +kernel
theorem dX7_slotOf_5 : decode cX7_slotOf 5 = .ok (.ireturn, 1) := by decide +kernel
theorem dX8_init_0 : decode cX8_init 0 = .ok (.aload_n 0, 1) := by decide +kernel
theorem dX8_init_1 : decode cX8_init 1 = .ok (.invokespecial 1, 3) := by decide +kernel
theorem dX8_init_4 : decode cX8_init 4 = .ok (.aload_n 0, 1) := by decide +kernel
theorem dX8_init_5 : decode cX8_init 5 = .ok (.sipush 512, 3) := by decide +kernel
theorem dX8_init_8 : decode cX8_init 8 = .ok (.newarray .int, 2) := by decide +kernel
theorem dX8_init_10 : decode cX8_init 10 = .ok (.putfield 7, 3) := by decide +kernel
theorem dX8_init_13 : decode cX8_init 13 = .ok (.aload_n 0, 1) := by decide +kernel
theorem dX8_init_14 : decode cX8_init 14 = .ok (.bipush 6, 2) := by decide +kernel
theorem dX8_init_16 : decode cX8_init 16 = .ok (.newarray .boolean, 2) := by decide +kernel
theorem dX8_init_18 : decode cX8_init 18 = .ok (.putfield 13, 3) := by decide +kernel
theorem dX8_init_21 : decode cX8_init 21 = .ok (.aload_n 0, 1) := by decide +kernel
theorem dX8_init_22 : decode cX8_init 22 = .ok (.bipush 6, 2) := by decide +kernel
theorem dX8_init_24 : decode cX8_init 24 = .ok (.newarray .boolean, 2) := by decide +kernel
theorem dX8_init_26 : decode cX8_init 26 = .ok (.putfield 17, 3) := by decide +kernel
theorem dX8_init_29 : decode cX8_init 29 = .ok (.aload_n 0, 1) := by decide +kernel
theorem dX8_init_30 : decode cX8_init 30 = .ok (.bipush 6, 2) := by decide +kernel
theorem dX8_init_32 : decode cX8_init 32 = .ok (.newarray .int, 2) := by decide +kernel
theorem dX8_init_34 : decode cX8_init 34 = .ok (.putfield 20, 3) := by decide +kernel
theorem dX8_init_37 : decode cX8_init 37 = .ok (.aload_n 0, 1) := by decide +kernel
theorem dX8_init_38 : decode cX8_init 38 = .ok (.bipush 6, 2) := by decide +kernel
theorem dX8_init_40 : decode cX8_init 40 = .ok (.newarray .int, 2) := by decide +kernel
theorem dX8_init_42 : decode cX8_init 42 = .ok (.putfield 23, 3) := by decide +kernel
theorem dX8_init_45 : decode cX8_init 45 = .ok (.aload_n 0, 1) := by decide +kernel
theorem dX8_init_46 : decode cX8_init 46 = .ok (.bipush 6, 2) := by decide +kernel
theorem dX8_init_48 : decode cX8_init 48 = .ok (.newarray .int, 2) := by decide +kernel
theorem dX8_init_50 : decode cX8_init 50 = .ok (.putfield 26, 3) := by decide +kernel
theorem dX8_init_53 : decode cX8_init 53 = .ok (.aload_n 0, 1) := by decide +kernel
theorem dX8_init_54 : decode cX8_init 54 = .ok (.bipush 6, 2) := by decide +kernel
theorem dX8_init_56 : decode cX8_init 56 = .ok (.newarray .int, 2) := by decide +kernel
theorem dX8_init_58 : decode cX8_init 58 = .ok (.putfield 29, 3) := by decide +kernel
theorem dX8_init_61 : decode cX8_init 61 = .ok (.aload_n 0, 1) := by decide +kernel
theorem dX8_init_62 : decode cX8_init 62 = .ok (.bipush 6, 2) := by decide +kernel
theorem dX8_init_64 : decode cX8_init 64 = .ok (.newarray .int, 2) := by decide +kernel
theorem dX8_init_66 : decode cX8_init 66 = .ok (.putfield 32, 3) := by decide +kernel
theorem dX8_init_69 : decode cX8_init 69 = .ok (.aload_n 0, 1) := by decide +kernel
theorem dX8_init_70 : decode cX8_init 70 = .ok (.bipush 6, 2) := by decide +kernel
theorem dX8_init_72 : decode cX8_init 72 = .ok (.newarray .int, 2) := by decide +kernel
theorem dX8_init_74 : decode cX8_init 74 = .ok (.putfield 35, 3) := by decide +kernel
theorem dX8_init_77 : decode cX8_init 77 = .ok (.aload_n 0, 1) := by decide +kernel
theorem dX8_init_78 : decode cX8_init 78 = .ok (.bipush 6, 2) := by decide +kernel
theorem dX8_init_80 : decode cX8_init 80 = .ok (.newarray .int, 2) := by decide +kernel
theorem dX8_init_82 : decode cX8_init 82 = .ok (.putfield 38, 3) := by decide +kernel
theorem dX8_init_85 : decode cX8_init 85 = .ok (.aload_n 0, 1) := by decide +kernel
theorem dX8_init_86 : decode cX8_init 86 = .ok (.ldc 41, 2) := by decide +kernel
theorem dX8_init_88 : decode cX8_init 88 = .ok (.newarray .int, 2) := by decide +kernel
theorem dX8_init_90 : decode cX8_init 90 = .ok (.putfield 42, 3) := by decide +kernel
theorem dX8_init_93 : decode cX8_init 93 = .ok (.aload_n 0, 1) := by decide +kernel
theorem dX8_init_94 : decode cX8_init 94 = .ok (.ldc 41, 2) := by decide +kernel
theorem dX8_init_96 : decode cX8_init 96 = .ok (.newarray .int, 2) := by decide +kernel
theorem dX8_init_98 : decode cX8_init 98 = .ok (.putfield 45, 3) := by decide +kernel
theorem dX8_init_101 : decode cX8_init 101 = .ok (.aload_n 0, 1) := by decide +kernel
theorem dX8_init_102 : decode cX8_init 102 = .ok (.bipush 6, 2) := by decide +kernel
theorem dX8_init_104 : decode cX8_init 104 = .ok (.newarray .boolean, 2) := by decide +kernel
theorem dX8_init_106 : decode cX8_init 106 = .ok (.putfield 48, 3) := by decide +kernel
theorem dX8_init_109 : decode cX8_init 109 = .ok (.aload_n 0, 1) := by decide +kernel
theorem dX8_init_110 : decode cX8_init 110 = .ok (.bipush 6, 2) := by decide +kernel
theorem dX8_init_112 : decode cX8_init 112 = .ok (.newarray .int, 2) := by decide +kernel
theorem dX8_init_114 : decode cX8_init 114 = .ok (.putfield 51, 3) := by decide +kernel
theorem dX8_init_117 : decode cX8_init 117 = .ok (.aload_n 0, 1) := by decide +kernel
theorem dX8_init_118 : decode cX8_init 118 = .ok (.bipush 6, 2) := by decide +kernel
theorem dX8_init_120 : decode cX8_init 120 = .ok (.newarray .int, 2) := by decide +kernel
theorem dX8_init_122 : decode cX8_init 122 = .ok (.putfield 54, 3) := by decide +kernel
theorem dX8_init_125 : decode cX8_init 125 = .ok (.aload_n 0, 1) := by decide +kernel
theorem dX8_init_126 : decode cX8_init 126 = .ok (.bipush 6, 2) := by decide +kernel
theorem dX8_init_128 : decode cX8_init 128 = .ok (.newarray .int, 2) := by decide +kernel
theorem dX8_init_130 : decode cX8_init 130 = .ok (.putfield 57, 3) := by decide +kernel
theorem dX8_init_133 : decode cX8_init 133 = .ok (.aload_n 0, 1) := by decide +kernel
theorem dX8_init_134 : decode cX8_init 134 = .ok (.bipush 6, 2) := by decide +kernel
theorem dX8_init_136 : decode cX8_init 136 = .ok (.newarray .int, 2) := by decide +kernel
theorem dX8_init_138 : decode cX8_init 138 = .ok (.putfield 60, 3) := by decide +kernel
theorem dX8_init_141 : decode cX8_init 141 = .ok (.aload_n 0, 1) := by decide +kernel
theorem dX8_init_142 : decode cX8_init 142 = .ok (.bipush 6, 2) := by decide +kernel
theorem dX8_init_144 : decode cX8_init 144 = .ok (.newarray .int, 2) := by decide +kernel
theorem dX8_init_146 : decode cX8_init 146 = .ok (.putfield 63, 3) := by decide +kernel
theorem dX8_init_149 : decode cX8_init 149 = .ok (.aload_n 0, 1) := by decide +kernel
theorem dX8_init_150 : decode cX8_init 150 = .ok (.bipush 6, 2) := by decide +kernel
theorem dX8_init_152 : decode cX8_init 152 = .ok (.newarray .double, 2) := by decide +kernel
theorem dX8_init_154 : decode cX8_init 154 = .ok (.putfield 66, 3) := by decide +kernel
theorem dX8_init_157 : decode cX8_init 157 = .ok (.aload_n 0, 1) := by decide +kernel
theorem dX8_init_158 : decode cX8_init 158 = .ok (.bipush 6, 2) := by decide +kernel
theorem dX8_init_160 : decode cX8_init 160 = .ok (.newarray .int, 2) := by decide +kernel
theorem dX8_init_162 : decode cX8_init 162 = .ok (.putfield 70, 3) := by decide +kernel
theorem dX8_init_165 : decode cX8_init 165 = .ok (.aload_n 0, 1) := by decide +kernel
theorem dX8_init_166 : decode cX8_init 166 = .ok (.bipush 6, 2) := by decide +kernel
theorem dX8_init_168 : decode cX8_init 168 = .ok (.newarray .int, 2) := by decide +kernel
theorem dX8_init_170 : decode cX8_init 170 = .ok (.putfield 73, 3) := by decide +kernel
theorem dX8_init_173 : decode cX8_init 173 = .ok (.aload_n 0, 1) := by decide +kernel
theorem dX8_init_174 : decode cX8_init 174 = .ok (.ldc 41, 2) := by decide +kernel
theorem dX8_init_176 : decode cX8_init 176 = .ok (.newarray .int, 2) := by decide +kernel
theorem dX8_init_178 : decode cX8_init 178 = .ok (.putfield 76, 3) := by decide +kernel
theorem dX8_init_181 : decode cX8_init 181 = .ok (.aload_n 0, 1) := by decide +kernel
theorem dX8_init_182 : decode cX8_init 182 = .ok (.bipush 6, 2) := by decide +kernel
theorem dX8_init_184 : decode cX8_init 184 = .ok (.newarray .int, 2) := by decide +kernel
theorem dX8_init_186 : decode cX8_init 186 = .ok (.putfield 79, 3) := by decide +kernel
theorem dX8_init_189 : decode cX8_init 189 = .ok (.aload_n 0, 1) := by decide +kernel
theorem dX8_init_190 : decode cX8_init 190 = .ok (.bipush 96, 2) := by decide +kernel
theorem dX8_init_192 : decode cX8_init 192 = .ok (.newarray .int, 2) := by decide +kernel
theorem dX8_init_194 : decode cX8_init 194 = .ok (.putfield 82, 3) := by decide +kernel
theorem dX8_init_197 : decode cX8_init 197 = .ok (.aload_n 0, 1) := by decide +kernel
theorem dX8_init_198 : decode cX8_init 198 = .ok (.bipush 96, 2) := by decide +kernel
theorem dX8_init_200 : decode cX8_init 200 = .ok (.newarray .int, 2) := by decide +kernel
theorem dX8_init_202 : decode cX8_init 202 = .ok (.putfield 85, 3) := by decide +kernel
theorem dX8_init_205 : decode cX8_init 205 = .ok (.aload_n 0, 1) := by decide +kernel
theorem dX8_init_206 : decode cX8_init 206 = .ok (.bipush 24, 2) := by decide +kernel
theorem dX8_init_208 : decode cX8_init 208 = .ok (.newarray .int, 2) := by decide +kernel
theorem dX8_init_210 : decode cX8_init 210 = .ok (.putfield 88, 3) := by decide +kernel
theorem dX8_init_213 : decode cX8_init 213 = .ok (.aload_n 0, 1) := by decide +kernel
theorem dX8_init_214 : decode cX8_init 214 = .ok (.bipush 96, 2) := by decide +kernel
theorem dX8_init_216 : decode cX8_init 216 = .ok (.newarray .int, 2) := by decide +kernel
theorem dX8_init_218 : decode cX8_init 218 = .ok (.putfield 91, 3) := by decide +kernel
theorem dX8_init_221 : decode cX8_init 221 = .ok (.aload_n 0, 1) := by decide +kernel
theorem dX8_init_222 : decode cX8_init 222 = .ok (.bipush 96, 2) := by decide +kernel
theorem dX8_init_224 : decode cX8_init 224 = .ok (.newarray .int, 2) := by decide +kernel
theorem dX8_init_226 : decode cX8_init 226 = .ok (.putfield 94, 3) := by decide +kernel
theorem dX8_init_229 : decode cX8_init 229 = .ok (.aload_n 0, 1) := by decide +kernel
theorem dX8_init_230 : decode cX8_init 230 = .ok (.bipush 24, 2) := by decide +kernel
theorem dX8_init_232 : decode cX8_init 232 = .ok (.newarray .int, 2) := by decide +kernel
theorem dX8_init_234 : decode cX8_init 234 = .ok (.putfield 97, 3) := by decide +kernel
theorem dX8_init_237 : decode cX8_init 237 = .ok (.aload_n 0, 1) := by decide +kernel
theorem dX8_init_238 : decode cX8_init 238 = .ok (.bipush 24, 2) := by decide +kernel
theorem dX8_init_240 : decode cX8_init 240 = .ok (.newarray .int, 2) := by decide +kernel
theorem dX8_init_242 : decode cX8_init 242 = .ok (.putfield 100, 3) := by decide +kernel
theorem dX8_init_245 : decode cX8_init 245 = .ok (.aload_n 0, 1) := by decide +kernel
theorem dX8_init_246 : decode cX8_init 246 = .ok (.iconst 1, 1) := by decide +kernel
theorem dX8_init_247 : decode cX8_init 247 = .ok (.putfield 103, 3) := by decide +kernel
theorem dX8_init_250 : decode cX8_init 250 = .ok (.aload_n 0, 1) := by decide +kernel
theorem dX8_init_251 : decode cX8_init 251 = .ok (.sipush 4096, 3) := by decide +kernel
theorem dX8_init_254 : decode cX8_init 254 = .ok (.putfield 107, 3) := by decide +kernel
theorem dX8_init_257 : decode cX8_init 257 = .ok (.aload_n 0, 1) := by decide +kernel
theorem dX8_init_258 : decode cX8_init 258 = .ok (.bipush 24, 2) := by decide +kernel
theorem dX8_init_260 : decode cX8_init 260 = .ok (.newarray .int, 2) := by decide +kernel
theorem dX8_init_262 : decode cX8_init 262 = .ok (.putfield 111, 3) := by decide +kernel
theorem dX8_init_265 : decode cX8_init 265 = .ok (.aload_n 0, 1) := by decide +kernel
theorem dX8_init_266 : decode cX8_init 266 = .ok (.bipush 24, 2) := by decide +kernel
theorem dX8_init_268 : decode cX8_init 268 = .ok (.newarray .int, 2) := by decide +kernel
theorem dX8_init_270 : decode cX8_init 270 = .ok (.putfield 114, 3) := by decide +kernel
theorem dX8_init_273 : decode cX8_init 273 = .ok (.aload_n 0, 1) := by decide +kernel
theorem dX8_init_274 : decode cX8_init 274 = .ok (.bipush 24, 2) := by decide +kernel
theorem dX8_init_276 : decode cX8_init 276 = .ok (.newarray .int, 2) := by decide +kernel
theorem dX8_init_278 : decode cX8_init 278 = .ok (.putfield 117, 3) := by decide +kernel
theorem dX8_init_281 : decode cX8_init 281 = .ok (.aload_n 0, 1) := by decide +kernel
theorem dX8_init_282 : decode cX8_init 282 = .ok (.bipush 24, 2) := by decide +kernel
theorem dX8_init_284 : decode cX8_init 284 = .ok (.newarray .int, 2) := by decide +kernel
theorem dX8_init_286 : decode cX8_init 286 = .ok (.putfield 120, 3) := by decide +kernel
theorem dX8_init_289 : decode cX8_init 289 = .ok (.iconst 0, 1) := by decide +kernel
theorem dX8_init_290 : decode cX8_init 290 = .ok (.istore_n 1, 1) := by decide +kernel
theorem dX8_init_291 : decode cX8_init 291 = .ok (.iload_n 1, 1) := by decide +kernel
theorem dX8_init_292 : decode cX8_init 292 = .ok (.bipush 32, 2) := by decide +kernel
theorem dX8_init_294 : decode cX8_init 294 = .ok (.if_icmp .ge 135, 3) := by decide +kernel
theorem dX8_init_297 : decode cX8_init 297 = .ok (.iconst 0, 1) := by decide +kernel
theorem dX8_init_298 : decode cX8_init 298 = .ok (.istore_n 2, 1) := by decide +kernel
theorem dX8_init_299 : decode cX8_init 299 = .ok (.iconst 0, 1) := by decide +kernel
theorem dX8_init_300 : decode cX8_init 300 = .ok (.istore_n 3, 1) := by decide +kernel
theorem dX8_init_301 : decode cX8_init 301 = .ok (.iload_n 3, 1) := by decide +kernel
theorem dX8_init_302 : decode cX8_init 302 = .ok (.bipush 16, 2) := by decide +kernel
theorem dX8_init_304 : decode cX8_init 304 = .ok (.if_icmp .ge 17, 3) := by decide +kernel
theorem dX8_init_307 : decode cX8_init 307 = .ok (.iload_n 2, 1) := by decide +kernel
theorem dX8_init_308 : decode cX8_init 308 = .ok (.iload_n 1, 1) := by decide +kernel
theorem dX8_init_309 : decode cX8_init 309 = .ok (.iload_n 3, 1) := by decide +kernel
theorem dX8_init_310 : decode cX8_init 310 = .ok (.invokestatic 123, 3) := by decide +kernel
theorem dX8_init_313 : decode cX8_init 313 = .ok (.iadd, 1) := by decide +kernel
theorem dX8_init_314 : decode cX8_init 314 = .ok (.istore_n 2, 1) := by decide +kernel
theorem dX8_init_315 : decode cX8_init 315 = .ok (.iinc 3 1, 3) := by decide +kernel
theorem dX8_init_318 : decode cX8_init 318 = .ok (.goto (-17), 3) := by decide +kernel
theorem dX8_init_321 : decode cX8_init 321 = .ok (.iconst 0, 1) := by decide +kernel
theorem dX8_init_322 : decode cX8_init 322 = .ok (.istore_n 3, 1) := by decide +kernel
theorem dX8_init_323 : decode cX8_init 323 = .ok (.iconst 0, 1) := by decide +kernel
theorem dX8_init_324 : decode cX8_init 324 = .ok (.istore 4, 2) := by decide +kernel
theorem dX8_init_326 : decode cX8_init 326 = .ok (.iload 4, 2) := by decide +kernel
theorem dX8_init_328 : decode cX8_init 328 = .ok (.bipush 16, 2) := by decide +kernel
theorem dX8_init_330 : decode cX8_init 330 = .ok (.if_icmp .ge 48, 3) := by decide +kernel
theorem dX8_init_333 : decode cX8_init 333 = .ok (.aload_n 0, 1) := by decide +kernel
theorem dX8_init_334 : decode cX8_init 334 = .ok (.getfield 7, 3) := by decide +kernel
theorem dX8_init_337 : decode cX8_init 337 = .ok (.bipush 16, 2) := by decide +kernel
theorem dX8_init_339 : decode cX8_init 339 = .ok (.iload_n 1, 1) := by decide +kernel
theorem dX8_init_340 : decode cX8_init 340 = .ok (.imul, 1) := by decide +kernel
theorem dX8_init_341 : decode cX8_init 341 = .ok (.iload 4, 2) := by decide +kernel
theorem dX8_init_343 : decode cX8_init 343 = .ok (.iadd, 1) := by decide +kernel
theorem dX8_init_344 : decode cX8_init 344 = .ok (.sipush 16384, 3) := by decide +kernel
theorem dX8_init_347 : decode cX8_init 347 = .ok (.iload_n 1, 1) := by decide +kernel
theorem dX8_init_348 : decode cX8_init 348 = .ok (.iload 4, 2) := by decide +kernel
theorem dX8_init_350 : decode cX8_init 350 = .ok (.invokestatic 123, 3) := by decide +kernel
theorem dX8_init_353 : decode cX8_init 353 = .ok (.imul, 1) := by decide +kernel
theorem dX8_init_354 : decode cX8_init 354 = .ok (.iload_n 2, 1) := by decide +kernel
theorem dX8_init_355 : decode cX8_init 355 = .ok (.idiv, 1) := by decide +kernel
theorem dX8_init_356 : decode cX8_init 356 = .ok (.iastore, 1) := by decide +kernel
theorem dX8_init_357 : decode cX8_init 357 = .ok (.iload_n 3, 1) := by decide +kernel
theorem dX8_init_358 : decode cX8_init 358 = .ok (.aload_n 0, 1) := by decide +kernel
theorem dX8_init_359 : decode cX8_init 359 = .ok (.getfield 7, 3) := by decide +kernel
theorem dX8_init_362 : decode cX8_init 362 = .ok (.bipush 16, 2) := by decide +kernel
theorem dX8_init_364 : decode cX8_init 364 = .ok (.iload_n 1, 1) := by decide +kernel
theorem dX8_init_365 : decode cX8_init 365 = .ok (.imul, 1) := by decide +kernel
theorem dX8_init_366 : decode cX8_init 366 = .ok (.iload 4, 2) := by decide +kernel
theorem dX8_init_368 : decode cX8_init 368 = .ok (.iadd, 1) := by decide +kernel
theorem dX8_init_369 : decode cX8_init 369 = .ok (.iaload, 1) := by decide +kernel
theorem dX8_init_370 : decode cX8_init 370 = .ok (.iadd, 1) := by decide +kernel
theorem dX8_init_371 : decode cX8_init 371 = .ok (.istore_n 3, 1) := by decide +kernel
theorem dX8_init_372 : decode cX8_init 372 = .ok (.iinc 4 1, 3) := by decide +kernel
theorem dX8_init_375 : decode cX8_init 375 = .ok (.goto (-49), 3) := by decide +kernel
theorem dX8_init_378 : decode cX8_init 378 = .ok (.iload_n 1, 1) := by decide +kernel
theorem dX8_init_379 : decode cX8_init 379 = .ok (.bipush 16, 2) := by decide +kernel
theorem dX8_init_381 : decode cX8_init 381 = .ok (.if_icmp .le 8, 3) := by decide +kernel
theorem dX8_init_384 : decode cX8_init 384 = .ok (.bipush 8, 2) := by decide +kernel
theorem dX8_init_386 : decode cX8_init 386 = .ok (.goto 5, 3) := by decide +kernel
theorem dX8_init_389 : decode cX8_init 389 = .ok (.bipush 7, 2) := by decide +kernel
theorem dX8_init_391 : decode cX8_init 391 = .ok (.istore 4, 2) := by decide +kernel
theorem dX8_init_393 : decode cX8_init 393 = .ok (.aload_n 0, 1) := by decide +kernel
theorem dX8_init_394 : decode cX8_init 394 = .ok (.getfield 7, 3) := by decide +kernel
theorem dX8_init_397 : decode cX8_init 397 = .ok (.bipush 16, 2) := by decide +kernel
theorem dX8_init_399 : decode cX8_init 399 = .ok (.iload_n 1, 1) := by decide +kernel
theorem dX8_init_400 : decode cX8_init 400 = .ok (.imul, 1) := by decide +kernel
theorem dX8_init_401 : decode cX8_init 401 = .ok (.iload 4, 2) := by decide +kernel
theorem dX8_init_403 : decode cX8_init 403 = .ok (.iadd, 1) := by decide +kernel
theorem dX8_init_404 : decode cX8_init 404 = .ok (.aload_n 0, 1) := by decide +kernel
theorem dX8_init_405 : decode cX8_init 405 = .ok (.getfield 7, 3) := by decide +kernel
theorem dX8_init_408 : decode cX8_init 408 = .ok (.bipush 16, 2) := by decide +kernel
theorem dX8_init_410 : decode cX8_init 410 = .ok (.iload_n 1, 1) := by decide +kernel
theorem dX8_init_411 : decode cX8_init 411 = .ok (.imul, 1) := by decide +kernel
theorem dX8_init_412 : decode cX8_init 412 = .ok (.iload 4, 2) := by decide +kernel
theorem dX8_init_414 : decode cX8_init 414 = .ok (.iadd, 1) := by decide +kernel
theorem dX8_init_415 : decode cX8_init 415 = .ok (.iaload, 1) := by decide +kernel
theorem dX8_init_416 : decode cX8_init 416 = .ok (.sipush 16384, 3) := by decide +kernel
theorem dX8_init_419 : decode cX8_init 419 = .ok (.iadd, 1) := by decide +kernel
theorem dX8_init_420 : decode cX8_init 420 = .ok (.iload_n 3, 1) := by decide +kernel
theorem dX8_init_421 : decode cX8_init 421 = .ok (.isub, 1) := by decide +kernel
theorem dX8_init_422 : decode cX8_init 422 = .ok (.iastore, 1) := by decide +kernel
theorem dX8_init_423 : decode cX8_init 423 = .ok (.iinc 1 1, 3) := by decide +kernel
theorem dX8_init_426 : decode cX8_init 426 = .ok (.goto (-135), 3) := by decide +kernel
theorem dX8_init_429 : decode cX8_init 429 = .ok (.return_, 1) := by decide +kernel
theorem dX8_weight_0 : decode cX8_weight 0 = .ok (.bipush 32, 2) := by decide +kernel
theorem dX8_weight_2 : decode cX8_weight 2 = .ok (.iload_n 1, 1) := by decide +kernel
theorem dX8_weight_3 : decode cX8_weight 3 = .ok (.bipush 7, 2) := by decide +kernel
theorem dX8_weight_5 : decode cX8_weight 5 = .ok (.isub, 1) := by decide +kernel
theorem dX8_weight_6 : decode cX8_weight 6 = .ok (.imul, 1) := by decide +kernel
theorem dX8_weight_7 : decode cX8_weight 7 = .ok (.iload_n 0, 1) := by decide +kernel
theorem dX8_weight_8 : decode cX8_weight 8 = .ok (.isub, 1) := by decide +kernel
theorem dX8_weight_9 : decode cX8_weight 9 = .ok (.istore_n 2, 1) := by decide +kernel
theorem dX8_weight_10 : decode cX8_weight 10 = .ok (.iload_n 2, 1) := by decide +kernel
theorem dX8_weight_11 : decode cX8_weight 11 = .ok (.ifCond .ge 8, 3) := by decide +kernel
theorem dX8_weight_14 : decode cX8_weight 14 = .ok (.iload_n 2, 1) := by decide +kernel
theorem dX8_weight_15 : decode cX8_weight 15 = .ok (.ineg, 1) := by decide +kernel
theorem dX8_weight_16 : decode cX8_weight 16 = .ok (.goto 4, 3) := by decide +kernel
theorem dX8_weight_19 : decode cX8_weight 19 = .ok (.iload_n 2, 1) := by decide +kernel
theorem dX8_weight_20 : decode cX8_weight 20 = .ok (.istore_n 2, 1) := by decide +kernel
theorem dX8_weight_21 : decode cX8_weight 21 = .ok (.iload_n 2, 1) := by decide +kernel
theorem dX8_weight_22 : decode cX8_weight 22 = .ok (.sipush 256, 3) := by decide +kernel
theorem dX8_weight_25 : decode cX8_weight 25 = .ok (.if_icmp .le 7, 3) := by decide +kernel
theorem dX8_weight_28 : decode cX8_weight 28 = .ok (.iconst 0, 1) := by decide +kernel
theorem dX8_weight_29 : decode cX8_weight 29 = .ok (.goto 14, 3) := by decide +kernel
theorem dX8_weight_32 : decode cX8_weight 32 = .ok (.sipush 256, 3) := by decide +kernel
theorem dX8_weight_35 : decode cX8_weight 35 = .ok (.iload_n 2, 1) := by decide +kernel
theorem dX8_weight_36 : decode cX8_weight 36 = .ok (.isub, 1) := by decide +kernel
theorem dX8_weight_37 : decode cX8_weight 37 = .ok (.sipush 256, 3) := by decide +kernel
theorem dX8_weight_40 : decode cX8_weight 40 = .ok (.iload_n 2, 1) := by decide +kernel
theorem dX8_weight_41 : decode cX8_weight 41 = .ok (.isub, 1) := by decide +kernel
theorem dX8_weight_42 : decode cX8_weight 42 = .ok (.imul, 1) := by decide +kernel
theorem dX8_weight_43 : decode cX8_weight 43 = .ok (.ireturn, 1) := by decide +kernel
theorem dX8_thrown_0 : decode cX8_thrown 0 = .ok (.aload_n 0, 1) := by decide +kernel
theorem dX8_thrown_1 : decode cX8_thrown 1 = .ok (.getfield 127, 3) := by decide +kernel
theorem dX8_thrown_4 : decode cX8_thrown 4 = .ok (.ireturn, 1) := by decide +kernel
theorem dX8_refused_0 : decode cX8_refused 0 = .ok (.aload_n 0, 1) := by decide +kernel
theorem dX8_refused_1 : decode cX8_refused 1 = .ok (.iload_n 1, 1) := by decide +kernel
theorem dX8_refused_2 : decode cX8_refused 2 = .ok (.putfield 127, 3) := by decide +kernel
theorem dX8_refused_5 : decode cX8_refused 5 = .ok (.iload_n 1, 1) := by decide +kernel
theorem dX8_refused_6 : decode cX8_refused 6 = .ok (.ifCond .le 7, 3) := by decide +kernel
theorem dX8_refused_9 : decode cX8_refused 9 = .ok (.iconst 1, 1) := by decide +kernel
theorem dX8_refused_10 : decode cX8_refused 10 = .ok (.goto 4, 3) := by decide +kernel
theorem dX8_refused_13 : decode cX8_refused 13 = .ok (.iconst 0, 1) := by decide +kernel
theorem dX8_refused_14 : decode cX8_refused 14 = .ok (.ireturn, 1) := by decide +kernel
theorem dX8_isIn_0 : decode cX8_isIn 0 = .ok (.iload_n 0, 1) := by decide +kernel
theorem dX8_isIn_1 : decode cX8_isIn 1 = .ok (.iload_n 1, 1) := by decide +kernel
theorem dX8_isIn_2 : decode cX8_isIn 2 = .ok (.if_icmp .lt 12, 3) := by decide +kernel
theorem dX8_isIn_5 : decode cX8_isIn 5 = .ok (.iload_n 0, 1) := by decide +kernel
theorem dX8_isIn_6 : decode cX8_isIn 6 = .ok (.iload_n 2, 1) := by decide +kernel
theorem dX8_isIn_7 : decode cX8_isIn 7 = .ok (.if_icmp .gt 7, 3) := by decide +kernel
theorem dX8_isIn_10 : decode cX8_isIn 10 = .ok (.iconst 1, 1) := by decide +kernel
theorem dX8_isIn_11 : decode cX8_isIn 11 = .ok (.goto 4, 3) := by decide +kernel
theorem dX8_isIn_14 : decode cX8_isIn 14 = .ok (.iconst 0, 1) := by decide +kernel
theorem dX8_isIn_15 : decode cX8_isIn 15 = .ok (.ireturn, 1) := by decide +kernel
theorem dX8_isClient_0 : decode cX8_isClient 0 = .ok (.iload_n 1, 1) := by decide +kernel
theorem dX8_isClient_1 : decode cX8_isClient 1 = .ok (.iconst 0, 1) := by decide +kernel
theorem dX8_isClient_2 : decode cX8_isClient 2 = .ok (.iconst 5, 1) := by decide +kernel
theorem dX8_isClient_3 : decode cX8_isClient 3 = .ok (.invokestatic 130, 3) := by decide +kernel
theorem dX8_isClient_6 : decode cX8_isClient 6 = .ok (.ifCond .eq 16, 3) := by decide +kernel
theorem dX8_isClient_9 : decode cX8_isClient 9 = .ok (.aload_n 0, 1) := by decide +kernel
theorem dX8_isClient_10 : decode cX8_isClient 10 = .ok (.getfield 13, 3) := by decide +kernel
theorem dX8_isClient_13 : decode cX8_isClient 13 = .ok (.iload_n 1, 1) := by decide +kernel
theorem dX8_isClient_14 : decode cX8_isClient 14 = .ok (.baload, 1) := by decide +kernel
theorem dX8_isClient_15 : decode cX8_isClient 15 = .ok (.ifCond .eq 7, 3) := by decide +kernel
theorem dX8_isClient_18 : decode cX8_isClient 18 = .ok (.iconst 1, 1) := by decide +kernel
theorem dX8_isClient_19 : decode cX8_isClient 19 = .ok (.goto 4, 3) := by decide +kernel
theorem dX8_isClient_22 : decode cX8_isClient 22 = .ok (.iconst 0, 1) := by decide +kernel
theorem dX8_isClient_23 : decode cX8_isClient 23 = .ok (.ireturn, 1) := by decide +kernel
theorem dX8_down_0 : decode cX8_down 0 = .ok (.lload_n 0, 1) := by decide +kernel
theorem dX8_down_1 : decode cX8_down 1 = .ok (.lload_n 2, 1) := by decide +kernel
theorem dX8_down_2 : decode cX8_down 2 = .ok (.ldiv, 1) := by decide +kernel
theorem dX8_down_3 : decode cX8_down 3 = .ok (.lstore 4, 2) := by decide +kernel
theorem dX8_down_5 : decode cX8_down 5 = .ok (.lload_n 0, 1) := by decide +kernel
theorem dX8_down_6 : decode cX8_down 6 = .ok (.lload_n 2, 1) := by decide +kernel
theorem dX8_down_7 : decode cX8_down 7 = .ok (.lrem, 1) := by decide +kernel
theorem dX8_down_8 : decode cX8_down 8 = .ok (.lconst 0, 1) := by decide +kernel
theorem dX8_down_9 : decode cX8_down 9 = .ok (.lcmp, 1) := by decide +kernel
theorem dX8_down_10 : decode cX8_down 10 = .ok (.ifCond .ge 10, 3) := by decide +kernel
theorem dX8_down_13 : decode cX8_down 13 = .ok (.lload 4, 2) := by decide +kernel
theorem dX8_down_15 : decode cX8_down 15 = .ok (.lconst 1, 1) := by decide +kernel
theorem dX8_down_16 : decode cX8_down 16 = .ok (.lsub, 1) := by decide +kernel
theorem dX8_down_17 : decode cX8_down 17 = .ok (.goto 5, 3) := by decide +kernel
theorem dX8_down_20 : decode cX8_down 20 = .ok (.lload 4, 2) := by decide +kernel
theorem dX8_down_22 : decode cX8_down 22 = .ok (.lreturn, 1) := by decide +kernel
theorem dX8_downBy_0 : decode cX8_downBy 0 = .ok (.iload_n 0, 1) := by decide +kernel
theorem dX8_downBy_1 : decode cX8_downBy 1 = .ok (.i2l, 1) := by decide +kernel
theorem dX8_downBy_2 : decode cX8_downBy 2 = .ok (.iload_n 1, 1) := by decide +kernel
theorem dX8_downBy_3 : decode cX8_downBy 3 = .ok (.i2l, 1) := by decide +kernel
theorem dX8_downBy_4 : decode cX8_downBy 4 = .ok (.invokestatic 134, 3) := by decide +kernel
theorem dX8_downBy_7 : decode cX8_downBy 7 = .ok (.l2i, 1) := by decide +kernel
theorem dX8_downBy_8 : decode cX8_downBy 8 = .ok (.ireturn, 1) := by decide +kernel
theorem dX8_isRate_0 : decode cX8_isRate 0 = .ok (.iload_n 0, 1) := by decide +kernel
theorem dX8_isRate_1 : decode cX8_isRate 1 = .ok (.sipush 8000, 3) := by decide +kernel
theorem dX8_isRate_4 : decode cX8_isRate 4 = .ok (.if_icmp .eq 43, 3) := by decide +kernel
theorem dX8_isRate_7 : decode cX8_isRate 7 = .ok (.iload_n 0, 1) := by decide +kernel
theorem dX8_isRate_8 : decode cX8_isRate 8 = .ok (.sipush 11025, 3) := by decide +kernel
theorem dX8_isRate_11 : decode cX8_isRate 11 = .ok (.if_icmp .eq 36, 3) := by decide +kernel
theorem dX8_isRate_14 : decode cX8_isRate 14 = .ok (.iload_n 0, 1) := by decide +kernel
theorem dX8_isRate_15 : decode cX8_isRate 15 = .ok (.sipush 16000, 3) := by decide +kernel
theorem dX8_isRate_18 : decode cX8_isRate 18 = .ok (.if_icmp .eq 29, 3) := by decide +kernel
theorem dX8_isRate_21 : decode cX8_isRate 21 = .ok (.iload_n 0, 1) := by decide +kernel
theorem dX8_isRate_22 : decode cX8_isRate 22 = .ok (.sipush 22050, 3) := by decide +kernel
theorem dX8_isRate_25 : decode cX8_isRate 25 = .ok (.if_icmp .eq 22, 3) := by decide +kernel
theorem dX8_isRate_28 : decode cX8_isRate 28 = .ok (.iload_n 0, 1) := by decide +kernel
theorem dX8_isRate_29 : decode cX8_isRate 29 = .ok (.sipush 32000, 3) := by decide +kernel
theorem dX8_isRate_32 : decode cX8_isRate 32 = .ok (.if_icmp .eq 15, 3) := by decide +kernel
theorem dX8_isRate_35 : decode cX8_isRate 35 = .ok (.iload_n 0, 1) := by decide +kernel
theorem dX8_isRate_36 : decode cX8_isRate 36 = .ok (.ldc 138, 2) := by decide +kernel
theorem dX8_isRate_38 : decode cX8_isRate 38 = .ok (.if_icmp .eq 9, 3) := by decide +kernel
theorem dX8_isRate_41 : decode cX8_isRate 41 = .ok (.iload_n 0, 1) := by decide +kernel
theorem dX8_isRate_42 : decode cX8_isRate 42 = .ok (.ldc 139, 2) := by decide +kernel
theorem dX8_isRate_44 : decode cX8_isRate 44 = .ok (.if_icmp .ne 7, 3) := by decide +kernel
theorem dX8_isRate_47 : decode cX8_isRate 47 = .ok (.iconst 1, 1) := by decide +kernel
theorem dX8_isRate_48 : decode cX8_isRate 48 = .ok (.goto 4, 3) := by decide +kernel
theorem dX8_isRate_51 : decode cX8_isRate 51 = .ok (.iconst 0, 1) := by decide +kernel
theorem dX8_isRate_52 : decode cX8_isRate 52 = .ok (.ireturn, 1) := by decide +kernel
theorem dX8_open_0 : decode cX8_open 0 = .ok (.iload_n 2, 1) := by decide +kernel
theorem dX8_open_1 : decode cX8_open 1 = .ok (.invokestatic 140, 3) := by decide +kernel
theorem dX8_open_4 : decode cX8_open 4 = .ok (.ifCond .eq 30, 3) := by decide +kernel
theorem dX8_open_7 : decode cX8_open 7 = .ok (.iload_n 3, 1) := by decide +kernel
theorem dX8_open_8 : decode cX8_open 8 = .ok (.iconst 1, 1) := by decide +kernel
theorem dX8_open_9 : decode cX8_open 9 = .ok (.iconst 2, 1) := by decide +kernel
theorem dX8_open_10 : decode cX8_open 10 = .ok (.invokestatic 130, 3) := by decide +kernel
theorem dX8_open_13 : decode cX8_open 13 = .ok (.ifCond .eq 21, 3) := by decide +kernel
theorem dX8_open_16 : decode cX8_open 16 = .ok (.iload 4, 2) := by decide +kernel
theorem dX8_open_18 : decode cX8_open 18 = .ok (.bipush 8, 2) := by decide +kernel
theorem dX8_open_20 : decode cX8_open 20 = .ok (.if_icmp .eq 10, 3) := by decide +kernel
theorem dX8_open_23 : decode cX8_open 23 = .ok (.iload 4, 2) := by decide +kernel
theorem dX8_open_25 : decode cX8_open 25 = .ok (.bipush 16, 2) := by decide +kernel
theorem dX8_open_27 : decode cX8_open 27 = .ok (.if_icmp .ne 7, 3) := by decide +kernel
theorem dX8_open_30 : decode cX8_open 30 = .ok (.iconst 1, 1) := by decide +kernel
theorem dX8_open_31 : decode cX8_open 31 = .ok (.goto 4, 3) := by decide +kernel
theorem dX8_open_34 : decode cX8_open 34 = .ok (.iconst 0, 1) := by decide +kernel
theorem dX8_open_35 : decode cX8_open 35 = .ok (.istore 5, 2) := by decide +kernel
theorem dX8_open_37 : decode cX8_open 37 = .ok (.iconst 0, 1) := by decide +kernel
theorem dX8_open_38 : decode cX8_open 38 = .ok (.istore 6, 2) := by decide +kernel
theorem dX8_open_40 : decode cX8_open 40 = .ok (.iload 6, 2) := by decide +kernel
theorem dX8_open_42 : decode cX8_open 42 = .ok (.bipush 6, 2) := by decide +kernel
theorem dX8_open_44 : decode cX8_open 44 = .ok (.if_icmp .ge 19, 3) := by decide +kernel
theorem dX8_open_47 : decode cX8_open 47 = .ok (.aload_n 0, 1) := by decide +kernel
theorem dX8_open_48 : decode cX8_open 48 = .ok (.getfield 13, 3) := by decide +kernel
theorem dX8_open_51 : decode cX8_open 51 = .ok (.iload 6, 2) := by decide +kernel
theorem dX8_open_53 : decode cX8_open 53 = .ok (.baload, 1) := by decide +kernel
theorem dX8_open_54 : decode cX8_open 54 = .ok (.ifCond .eq 9, 3) := by decide +kernel
theorem dX8_open_57 : decode cX8_open 57 = .ok (.iinc 6 1, 3) := by decide +kernel
theorem dX8_open_60 : decode cX8_open 60 = .ok (.goto (-20), 3) := by decide +kernel
theorem dX8_open_63 : decode cX8_open 63 = .ok (.aload_n 0, 1) := by decide +kernel
theorem dX8_open_64 : decode cX8_open 64 = .ok (.iload 5, 2) := by decide +kernel
theorem dX8_open_66 : decode cX8_open 66 = .ok (.ifCond .ne 7, 3) := by decide +kernel
theorem dX8_open_69 : decode cX8_open 69 = .ok (.iconst 1, 1) := by decide +kernel
theorem dX8_open_70 : decode cX8_open 70 = .ok (.goto 15, 3) := by decide +kernel
theorem dX8_open_73 : decode cX8_open 73 = .ok (.iload 6, 2) := by decide +kernel
theorem dX8_open_75 : decode cX8_open 75 = .ok (.bipush 6, 2) := by decide +kernel
theorem dX8_open_77 : decode cX8_open 77 = .ok (.if_icmp .ne 7, 3) := by decide +kernel
theorem dX8_open_80 : decode cX8_open 80 = .ok (.iconst 2, 1) := by decide +kernel
theorem dX8_open_81 : decode cX8_open 81 = .ok (.goto 4, 3) := by decide +kernel
theorem dX8_open_84 : decode cX8_open 84 = .ok (.iconst 0, 1) := by decide +kernel
theorem dX8_open_85 : decode cX8_open 85 = .ok (.invokevirtual 144, 3) := by decide +kernel
theorem dX8_open_88 : decode cX8_open 88 = .ok (.ifCond .eq 5, 3) := by decide +kernel
theorem dX8_open_91 : decode cX8_open 91 = .ok (.iconst 0, 1) := by decide +kernel
theorem dX8_open_92 : decode cX8_open 92 = .ok (.ireturn, 1) := by decide +kernel
theorem dX8_open_93 : decode cX8_open 93 = .ok (.aload_n 0, 1) := by decide +kernel
theorem dX8_open_94 : decode cX8_open 94 = .ok (.getfield 13, 3) := by decide +kernel
theorem dX8_open_97 : decode cX8_open 97 = .ok (.iload 6, 2) := by decide +kernel
theorem dX8_open_99 : decode cX8_open 99 = .ok (.iconst 1, 1) := by decide +kernel
theorem dX8_open_100 : decode cX8_open 100 = .ok (.bastore, 1) := by decide +kernel
theorem dX8_open_101 : decode cX8_open 101 = .ok (.aload_n 0, 1) := by decide +kernel
theorem dX8_open_102 : decode cX8_open 102 = .ok (.getfield 17, 3) := by decide +kernel
theorem dX8_open_105 : decode cX8_open 105 = .ok (.iload 6, 2) := by decide +kernel
theorem dX8_open_107 : decode cX8_open 107 = .ok (.iload_n 1, 1) := by decide +kernel
theorem dX8_open_108 : decode cX8_open 108 = .ok (.bastore, 1) := by decide +kernel
theorem dX8_open_109 : decode cX8_open 109 = .ok (.aload_n 0, 1) := by decide +kernel
theorem dX8_open_110 : decode cX8_open 110 = .ok (.getfield 20, 3) := by decide +kernel
theorem dX8_open_113 : decode cX8_open 113 = .ok (.iload 6, 2) := by decide +kernel
theorem dX8_open_115 : decode cX8_open 115 = .ok (.iload_n 2, 1) := by decide +kernel
theorem dX8_open_116 : decode cX8_open 116 = .ok (.iastore, 1) := by decide +kernel
theorem dX8_open_117 : decode cX8_open 117 = .ok (.aload_n 0, 1) := by decide +kernel
theorem dX8_open_118 : decode cX8_open 118 = .ok (.getfield 23, 3) := by decide +kernel
theorem dX8_open_121 : decode cX8_open 121 = .ok (.iload 6, 2) := by decide +kernel
theorem dX8_open_123 : decode cX8_open 123 = .ok (.iload_n 3, 1) := by decide +kernel
theorem dX8_open_124 : decode cX8_open 124 = .ok (.iastore, 1) := by decide +kernel
theorem dX8_open_125 : decode cX8_open 125 = .ok (.aload_n 0, 1) := by decide +kernel
theorem dX8_open_126 : decode cX8_open 126 = .ok (.getfield 26, 3) := by decide +kernel
theorem dX8_open_129 : decode cX8_open 129 = .ok (.iload 6, 2) := by decide +kernel
theorem dX8_open_131 : decode cX8_open 131 = .ok (.iload 4, 2) := by decide +kernel
theorem dX8_open_133 : decode cX8_open 133 = .ok (.iastore, 1) := by decide +kernel
theorem dX8_open_134 : decode cX8_open 134 = .ok (.aload_n 0, 1) := by decide +kernel
theorem dX8_open_135 : decode cX8_open 135 = .ok (.getfield 29, 3) := by decide +kernel
theorem dX8_open_138 : decode cX8_open 138 = .ok (.iload 6, 2) := by decide +kernel
theorem dX8_open_140 : decode cX8_open 140 = .ok (.sipush 256, 3) := by decide +kernel
theorem dX8_open_143 : decode cX8_open 143 = .ok (.iastore, 1) := by decide +kernel
theorem dX8_open_144 : decode cX8_open 144 = .ok (.aload_n 0, 1) := by decide +kernel
theorem dX8_open_145 : decode cX8_open 145 = .ok (.getfield 32, 3) := by decide +kernel
theorem dX8_open_148 : decode cX8_open 148 = .ok (.iload 6, 2) := by decide +kernel
theorem dX8_open_150 : decode cX8_open 150 = .ok (.iconst 0, 1) := by decide +kernel
theorem dX8_open_151 : decode cX8_open 151 = .ok (.iastore, 1) := by decide +kernel
theorem dX8_open_152 : decode cX8_open 152 = .ok (.aload_n 0, 1) := by decide +kernel
theorem dX8_open_153 : decode cX8_open 153 = .ok (.getfield 35, 3) := by decide +kernel
theorem dX8_open_156 : decode cX8_open 156 = .ok (.iload 6, 2) := by decide +kernel
theorem dX8_open_158 : decode cX8_open 158 = .ok (.iconst 0, 1) := by decide +kernel
theorem dX8_open_159 : decode cX8_open 159 = .ok (.iastore, 1) := by decide +kernel
theorem dX8_open_160 : decode cX8_open 160 = .ok (.aload_n 0, 1) := by decide +kernel
theorem dX8_open_161 : decode cX8_open 161 = .ok (.getfield 38, 3) := by decide +kernel
theorem dX8_open_164 : decode cX8_open 164 = .ok (.iload 6, 2) := by decide +kernel
theorem dX8_open_166 : decode cX8_open 166 = .ok (.iconst 0, 1) := by decide +kernel
theorem dX8_open_167 : decode cX8_open 167 = .ok (.iastore, 1) := by decide +kernel
theorem dX8_open_168 : decode cX8_open 168 = .ok (.aload_n 0, 1) := by decide +kernel
theorem dX8_open_169 : decode cX8_open 169 = .ok (.getfield 48, 3) := by decide +kernel
theorem dX8_open_172 : decode cX8_open 172 = .ok (.iload 6, 2) := by decide +kernel
theorem dX8_open_174 : decode cX8_open 174 = .ok (.iconst 0, 1) := by decide +kernel
theorem dX8_open_175 : decode cX8_open 175 = .ok (.bastore, 1) := by decide +kernel
theorem dX8_open_176 : decode cX8_open 176 = .ok (.aload_n 0, 1) := by decide +kernel
theorem dX8_open_177 : decode cX8_open 177 = .ok (.getfield 54, 3) := by decide +kernel
theorem dX8_open_180 : decode cX8_open 180 = .ok (.iload 6, 2) := by decide +kernel
theorem dX8_open_182 : decode cX8_open 182 = .ok (.iconst 0, 1) := by decide +kernel
theorem dX8_open_183 : decode cX8_open 183 = .ok (.iastore, 1) := by decide +kernel
theorem dX8_open_184 : decode cX8_open 184 = .ok (.aload_n 0, 1) := by decide +kernel
theorem dX8_open_185 : decode cX8_open 185 = .ok (.getfield 57, 3) := by decide +kernel
theorem dX8_open_188 : decode cX8_open 188 = .ok (.iload 6, 2) := by decide +kernel
theorem dX8_open_190 : decode cX8_open 190 = .ok (.iconst 0, 1) := by decide +kernel
theorem dX8_open_191 : decode cX8_open 191 = .ok (.iastore, 1) := by decide +kernel
theorem dX8_open_192 : decode cX8_open 192 = .ok (.aload_n 0, 1) := by decide +kernel
theorem dX8_open_193 : decode cX8_open 193 = .ok (.getfield 60, 3) := by decide +kernel
theorem dX8_open_196 : decode cX8_open 196 = .ok (.iload 6, 2) := by decide +kernel
theorem dX8_open_198 : decode cX8_open 198 = .ok (.iconst 0, 1) := by decide +kernel
theorem dX8_open_199 : decode cX8_open 199 = .ok (.iastore, 1) := by decide +kernel
theorem dX8_open_200 : decode cX8_open 200 = .ok (.aload_n 0, 1) := by decide +kernel
theorem dX8_open_201 : decode cX8_open 201 = .ok (.getfield 63, 3) := by decide +kernel
theorem dX8_open_204 : decode cX8_open 204 = .ok (.iload 6, 2) := by decide +kernel
theorem dX8_open_206 : decode cX8_open 206 = .ok (.iconst 0, 1) := by decide +kernel
theorem dX8_open_207 : decode cX8_open 207 = .ok (.iastore, 1) := by decide +kernel
theorem dX8_open_208 : decode cX8_open 208 = .ok (.aload_n 0, 1) := by decide +kernel
theorem dX8_open_209 : decode cX8_open 209 = .ok (.getfield 66, 3) := by decide +kernel
theorem dX8_open_212 : decode cX8_open 212 = .ok (.iload 6, 2) := by decide +kernel
theorem dX8_open_214 : decode cX8_open 214 = .ok (.dconst 0, 1) := by decide +kernel
theorem dX8_open_215 : decode cX8_open 215 = .ok (.dastore, 1) := by decide +kernel
theorem dX8_open_216 : decode cX8_open 216 = .ok (.aload_n 0, 1) := by decide +kernel
theorem dX8_open_217 : decode cX8_open 217 = .ok (.getfield 70, 3) := by decide +kernel
theorem dX8_open_220 : decode cX8_open 220 = .ok (.iload 6, 2) := by decide +kernel
theorem dX8_open_222 : decode cX8_open 222 = .ok (.iconst 0, 1) := by decide +kernel
theorem dX8_open_223 : decode cX8_open 223 = .ok (.iastore, 1) := by decide +kernel
theorem dX8_open_224 : decode cX8_open 224 = .ok (.aload_n 0, 1) := by decide +kernel
theorem dX8_open_225 : decode cX8_open 225 = .ok (.getfield 73, 3) := by decide +kernel
theorem dX8_open_228 : decode cX8_open 228 = .ok (.iload 6, 2) := by decide +kernel
theorem dX8_open_230 : decode cX8_open 230 = .ok (.iconst 0, 1) := by decide +kernel
theorem dX8_open_231 : decode cX8_open 231 = .ok (.iastore, 1) := by decide +kernel
theorem dX8_open_232 : decode cX8_open 232 = .ok (.aload_n 0, 1) := by decide +kernel
theorem dX8_open_233 : decode cX8_open 233 = .ok (.getfield 79, 3) := by decide +kernel
theorem dX8_open_236 : decode cX8_open 236 = .ok (.iload 6, 2) := by decide +kernel
theorem dX8_open_238 : decode cX8_open 238 = .ok (.iconst 0, 1) := by decide +kernel
theorem dX8_open_239 : decode cX8_open 239 = .ok (.iastore, 1) := by decide +kernel
theorem dX8_open_240 : decode cX8_open 240 = .ok (.iload 6, 2) := by decide +kernel
theorem dX8_open_242 : decode cX8_open 242 = .ok (.ireturn, 1) := by decide +kernel
theorem dX8_close_0 : decode cX8_close 0 = .ok (.aload_n 0, 1) := by decide +kernel
theorem dX8_close_1 : decode cX8_close 1 = .ok (.aload_n 0, 1) := by decide +kernel
theorem dX8_close_2 : decode cX8_close 2 = .ok (.iload_n 1, 1) := by decide +kernel
theorem dX8_close_3 : decode cX8_close 3 = .ok (.invokevirtual 147, 3) := by decide +kernel
theorem dX8_close_6 : decode cX8_close 6 = .ok (.ifCond .eq 7, 3) := by decide +kernel
theorem dX8_close_9 : decode cX8_close 9 = .ok (.iconst 0, 1) := by decide +kernel
theorem dX8_close_10 : decode cX8_close 10 = .ok (.goto 4, 3) := by decide +kernel
theorem dX8_close_13 : decode cX8_close 13 = .ok (.iconst 1, 1) := by decide +kernel
theorem dX8_close_14 : decode cX8_close 14 = .ok (.invokevirtual 144, 3) := by decide +kernel
theorem dX8_close_17 : decode cX8_close 17 = .ok (.ifCond .eq 4, 3) := by decide +kernel
theorem dX8_close_20 : decode cX8_close 20 = .ok (.return_, 1) := by decide +kernel
theorem dX8_close_21 : decode cX8_close 21 = .ok (.aload_n 0, 1) := by decide +kernel
theorem dX8_close_22 : decode cX8_close 22 = .ok (.getfield 13, 3) := by decide +kernel
theorem dX8_close_25 : decode cX8_close 25 = .ok (.iload_n 1, 1) := by decide +kernel
theorem dX8_close_26 : decode cX8_close 26 = .ok (.iconst 0, 1) := by decide +kernel
theorem dX8_close_27 : decode cX8_close 27 = .ok (.bastore, 1) := by decide +kernel
theorem dX8_close_28 : decode cX8_close 28 = .ok (.iconst 0, 1) := by decide +kernel
theorem dX8_close_29 : decode cX8_close 29 = .ok (.istore_n 2, 1) := by decide +kernel
theorem dX8_close_30 : decode cX8_close 30 = .ok (.iload_n 2, 1) := by decide +kernel
theorem dX8_close_31 : decode cX8_close 31 = .ok (.iconst 4, 1) := by decide +kernel
theorem dX8_close_32 : decode cX8_close 32 = .ok (.if_icmp .ge 21, 3) := by decide +kernel
theorem dX8_close_35 : decode cX8_close 35 = .ok (.aload_n 0, 1) := by decide +kernel
theorem dX8_close_36 : decode cX8_close 36 = .ok (.getfield 88, 3) := by decide +kernel
theorem dX8_close_39 : decode cX8_close 39 = .ok (.bipush 6, 2) := by decide +kernel
theorem dX8_close_41 : decode cX8_close 41 = .ok (.iload_n 2, 1) := by decide +kernel
theorem dX8_close_42 : decode cX8_close 42 = .ok (.imul, 1) := by decide +kernel
theorem dX8_close_43 : decode cX8_close 43 = .ok (.iload_n 1, 1) := by decide +kernel
theorem dX8_close_44 : decode cX8_close 44 = .ok (.iadd, 1) := by decide +kernel
theorem dX8_close_45 : decode cX8_close 45 = .ok (.iconst 0, 1) := by decide +kernel
theorem dX8_close_46 : decode cX8_close 46 = .ok (.iastore, 1) := by decide +kernel
theorem dX8_close_47 : decode cX8_close 47 = .ok (.iinc 2 1, 3) := by decide +kernel
theorem dX8_close_50 : decode cX8_close 50 = .ok (.goto (-20), 3) := by decide +kernel
theorem dX8_close_53 : decode cX8_close 53 = .ok (.return_, 1) := by decide +kernel
theorem dX8_gain_0 : decode cX8_gain 0 = .ok (.aload_n 0, 1) := by decide +kernel
theorem dX8_gain_1 : decode cX8_gain 1 = .ok (.iload_n 1, 1) := by decide +kernel
theorem dX8_gain_2 : decode cX8_gain 2 = .ok (.invokevirtual 147, 3) := by decide +kernel
theorem dX8_gain_5 : decode cX8_gain 5 = .ok (.ifCond .eq 28, 3) := by decide +kernel
theorem dX8_gain_8 : decode cX8_gain 8 = .ok (.aload_n 0, 1) := by decide +kernel
theorem dX8_gain_9 : decode cX8_gain 9 = .ok (.getfield 17, 3) := by decide +kernel
theorem dX8_gain_12 : decode cX8_gain 12 = .ok (.iload_n 1, 1) := by decide +kernel
theorem dX8_gain_13 : decode cX8_gain 13 = .ok (.baload, 1) := by decide +kernel
theorem dX8_gain_14 : decode cX8_gain 14 = .ok (.ifCond .eq 19, 3) := by decide +kernel
theorem dX8_gain_17 : decode cX8_gain 17 = .ok (.dload_n 2, 1) := by decide +kernel
theorem dX8_gain_18 : decode cX8_gain 18 = .ok (.dconst 0, 1) := by decide +kernel
theorem dX8_gain_19 : decode cX8_gain 19 = .ok (.dcmp .l, 1) := by decide +kernel
theorem dX8_gain_20 : decode cX8_gain 20 = .ok (.ifCond .lt 13, 3) := by decide +kernel
theorem dX8_gain_23 : decode cX8_gain 23 = .ok (.dload_n 2, 1) := by decide +kernel
theorem dX8_gain_24 : decode cX8_gain 24 = .ok (.dconst 1, 1) := by decide +kernel
theorem dX8_gain_25 : decode cX8_gain 25 = .ok (.dcmp .g, 1) := by decide +kernel
theorem dX8_gain_26 : decode cX8_gain 26 = .ok (.ifCond .gt 7, 3) := by decide +kernel
theorem dX8_gain_29 : decode cX8_gain 29 = .ok (.iconst 1, 1) := by decide +kernel
theorem dX8_gain_30 : decode cX8_gain 30 = .ok (.goto 4, 3) := by decide +kernel
theorem dX8_gain_33 : decode cX8_gain 33 = .ok (.iconst 0, 1) := by decide +kernel
theorem dX8_gain_34 : decode cX8_gain 34 = .ok (.istore 4, 2) := by decide +kernel
theorem dX8_gain_36 : decode cX8_gain 36 = .ok (.aload_n 0, 1) := by decide +kernel
theorem dX8_gain_37 : decode cX8_gain 37 = .ok (.iload 4, 2) := by decide +kernel
theorem dX8_gain_39 : decode cX8_gain 39 = .ok (.ifCond .eq 7, 3) := by decide +kernel
theorem dX8_gain_42 : decode cX8_gain 42 = .ok (.iconst 0, 1) := by decide +kernel
theorem dX8_gain_43 : decode cX8_gain 43 = .ok (.goto 4, 3) := by decide +kernel
theorem dX8_gain_46 : decode cX8_gain 46 = .ok (.iconst 1, 1) := by decide +kernel
theorem dX8_gain_47 : decode cX8_gain 47 = .ok (.invokevirtual 144, 3) := by decide +kernel
theorem dX8_gain_50 : decode cX8_gain 50 = .ok (.ifCond .ne 15, 3) := by decide +kernel
theorem dX8_gain_53 : decode cX8_gain 53 = .ok (.aload_n 0, 1) := by decide +kernel
theorem dX8_gain_54 : decode cX8_gain 54 = .ok (.getfield 29, 3) := by decide +kernel
theorem dX8_gain_57 : decode cX8_gain 57 = .ok (.iload_n 1, 1) := by decide +kernel
theorem dX8_gain_58 : decode cX8_gain 58 = .ok (.dload_n 2, 1) := by decide +kernel
theorem dX8_gain_59 : decode cX8_gain 59 = .ok (.ldc2_w 150, 3) := by decide +kernel
theorem dX8_gain_62 : decode cX8_gain 62 = .ok (.dmul, 1) := by decide +kernel
theorem dX8_gain_63 : decode cX8_gain 63 = .ok (.d2i, 1) := by decide +kernel
theorem dX8_gain_64 : decode cX8_gain 64 = .ok (.iastore, 1) := by decide +kernel
theorem dX8_gain_65 : decode cX8_gain 65 = .ok (.return_, 1) := by decide +kernel
theorem dX8_start_0 : decode cX8_start 0 = .ok (.aload_n 0, 1) := by decide +kernel
theorem dX8_start_1 : decode cX8_start 1 = .ok (.aload_n 0, 1) := by decide +kernel
theorem dX8_start_2 : decode cX8_start 2 = .ok (.iload_n 1, 1) := by decide +kernel
theorem dX8_start_3 : decode cX8_start 3 = .ok (.invokevirtual 147, 3) := by decide +kernel
theorem dX8_start_6 : decode cX8_start 6 = .ok (.ifCond .ne 7, 3) := by decide +kernel
theorem dX8_start_9 : decode cX8_start 9 = .ok (.iconst 1, 1) := by decide +kernel
theorem dX8_start_10 : decode cX8_start 10 = .ok (.goto 27, 3) := by decide +kernel
theorem dX8_start_13 : decode cX8_start 13 = .ok (.aload_n 0, 1) := by decide +kernel
theorem dX8_start_14 : decode cX8_start 14 = .ok (.getfield 32, 3) := by decide +kernel
theorem dX8_start_17 : decode cX8_start 17 = .ok (.iload_n 1, 1) := by decide +kernel
theorem dX8_start_18 : decode cX8_start 18 = .ok (.iaload, 1) := by decide +kernel
theorem dX8_start_19 : decode cX8_start 19 = .ok (.ifCond .eq 17, 3) := by decide +kernel
theorem dX8_start_22 : decode cX8_start 22 = .ok (.aload_n 0, 1) := by decide +kernel
theorem dX8_start_23 : decode cX8_start 23 = .ok (.getfield 32, 3) := by decide +kernel
theorem dX8_start_26 : decode cX8_start 26 = .ok (.iload_n 1, 1) := by decide +kernel
theorem dX8_start_27 : decode cX8_start 27 = .ok (.iaload, 1) := by decide +kernel
theorem dX8_start_28 : decode cX8_start 28 = .ok (.iconst 2, 1) := by decide +kernel
theorem dX8_start_29 : decode cX8_start 29 = .ok (.if_icmp .eq 7, 3) := by decide +kernel
theorem dX8_start_32 : decode cX8_start 32 = .ok (.iconst 2, 1) := by decide +kernel
theorem dX8_start_33 : decode cX8_start 33 = .ok (.goto 4, 3) := by decide +kernel
theorem dX8_start_36 : decode cX8_start 36 = .ok (.iconst 0, 1) := by decide +kernel
theorem dX8_start_37 : decode cX8_start 37 = .ok (.invokevirtual 144, 3) := by decide +kernel
theorem dX8_start_40 : decode cX8_start 40 = .ok (.ifCond .ne 10, 3) := by decide +kernel
theorem dX8_start_43 : decode cX8_start 43 = .ok (.aload_n 0, 1) := by decide +kernel
theorem dX8_start_44 : decode cX8_start 44 = .ok (.getfield 32, 3) := by decide +kernel
theorem dX8_start_47 : decode cX8_start 47 = .ok (.iload_n 1, 1) := by decide +kernel
theorem dX8_start_48 : decode cX8_start 48 = .ok (.iconst 1, 1) := by decide +kernel
theorem dX8_start_49 : decode cX8_start 49 = .ok (.iastore, 1) := by decide +kernel
theorem dX8_start_50 : decode cX8_start 50 = .ok (.return_, 1) := by decide +kernel
theorem dX8_pause_0 : decode cX8_pause 0 = .ok (.aload_n 0, 1) := by decide +kernel
theorem dX8_pause_1 : decode cX8_pause 1 = .ok (.aload_n 0, 1) := by decide +kernel
theorem dX8_pause_2 : decode cX8_pause 2 = .ok (.iload_n 1, 1) := by decide +kernel
theorem dX8_pause_3 : decode cX8_pause 3 = .ok (.invokevirtual 147, 3) := by decide +kernel
theorem dX8_pause_6 : decode cX8_pause 6 = .ok (.ifCond .ne 7, 3) := by decide +kernel
theorem dX8_pause_9 : decode cX8_pause 9 = .ok (.iconst 1, 1) := by decide +kernel
theorem dX8_pause_10 : decode cX8_pause 10 = .ok (.goto 18, 3) := by decide +kernel
theorem dX8_pause_13 : decode cX8_pause 13 = .ok (.aload_n 0, 1) := by decide +kernel
theorem dX8_pause_14 : decode cX8_pause 14 = .ok (.getfield 32, 3) := by decide +kernel
theorem dX8_pause_17 : decode cX8_pause 17 = .ok (.iload_n 1, 1) := by decide +kernel
theorem dX8_pause_18 : decode cX8_pause 18 = .ok (.iaload, 1) := by decide +kernel
theorem dX8_pause_19 : decode cX8_pause 19 = .ok (.iconst 1, 1) := by decide +kernel
theorem dX8_pause_20 : decode cX8_pause 20 = .ok (.if_icmp .eq 7, 3) := by decide +kernel
theorem dX8_pause_23 : decode cX8_pause 23 = .ok (.iconst 2, 1) := by decide +kernel
theorem dX8_pause_24 : decode cX8_pause 24 = .ok (.goto 4, 3) := by decide +kernel
theorem dX8_pause_27 : decode cX8_pause 27 = .ok (.iconst 0, 1) := by decide +kernel
theorem dX8_pause_28 : decode cX8_pause 28 = .ok (.invokevirtual 144, 3) := by decide +kernel
theorem dX8_pause_31 : decode cX8_pause 31 = .ok (.ifCond .ne 10, 3) := by decide +kernel
theorem dX8_pause_34 : decode cX8_pause 34 = .ok (.aload_n 0, 1) := by decide +kernel
theorem dX8_pause_35 : decode cX8_pause 35 = .ok (.getfield 32, 3) := by decide +kernel
theorem dX8_pause_38 : decode cX8_pause 38 = .ok (.iload_n 1, 1) := by decide +kernel
theorem dX8_pause_39 : decode cX8_pause 39 = .ok (.iconst 2, 1) := by decide +kernel
theorem dX8_pause_40 : decode cX8_pause 40 = .ok (.iastore, 1) := by decide +kernel
theorem dX8_pause_41 : decode cX8_pause 41 = .ok (.return_, 1) := by decide +kernel
theorem dX8_drain_0 : decode cX8_drain 0 = .ok (.aload_n 0, 1) := by decide +kernel
theorem dX8_drain_1 : decode cX8_drain 1 = .ok (.aload_n 0, 1) := by decide +kernel
theorem dX8_drain_2 : decode cX8_drain 2 = .ok (.iload_n 1, 1) := by decide +kernel
theorem dX8_drain_3 : decode cX8_drain 3 = .ok (.invokevirtual 147, 3) := by decide +kernel
theorem dX8_drain_6 : decode cX8_drain 6 = .ok (.ifCond .eq 12, 3) := by decide +kernel
theorem dX8_drain_9 : decode cX8_drain 9 = .ok (.aload_n 0, 1) := by decide +kernel
theorem dX8_drain_10 : decode cX8_drain 10 = .ok (.getfield 17, 3) := by decide +kernel
theorem dX8_drain_13 : decode cX8_drain 13 = .ok (.iload_n 1, 1) := by decide +kernel
theorem dX8_drain_14 : decode cX8_drain 14 = .ok (.baload, 1) := by decide +kernel
theorem dX8_drain_15 : decode cX8_drain 15 = .ok (.ifCond .ne 7, 3) := by decide +kernel
theorem dX8_drain_18 : decode cX8_drain 18 = .ok (.iconst 1, 1) := by decide +kernel
theorem dX8_drain_19 : decode cX8_drain 19 = .ok (.goto 18, 3) := by decide +kernel
theorem dX8_drain_22 : decode cX8_drain 22 = .ok (.aload_n 0, 1) := by decide +kernel
theorem dX8_drain_23 : decode cX8_drain 23 = .ok (.getfield 32, 3) := by decide +kernel
theorem dX8_drain_26 : decode cX8_drain 26 = .ok (.iload_n 1, 1) := by decide +kernel
theorem dX8_drain_27 : decode cX8_drain 27 = .ok (.iaload, 1) := by decide +kernel
theorem dX8_drain_28 : decode cX8_drain 28 = .ok (.iconst 1, 1) := by decide +kernel
theorem dX8_drain_29 : decode cX8_drain 29 = .ok (.if_icmp .eq 7, 3) := by decide +kernel
theorem dX8_drain_32 : decode cX8_drain 32 = .ok (.iconst 2, 1) := by decide +kernel
theorem dX8_drain_33 : decode cX8_drain 33 = .ok (.goto 4, 3) := by decide +kernel
theorem dX8_drain_36 : decode cX8_drain 36 = .ok (.iconst 0, 1) := by decide +kernel
theorem dX8_drain_37 : decode cX8_drain 37 = .ok (.invokevirtual 144, 3) := by decide +kernel
theorem dX8_drain_40 : decode cX8_drain 40 = .ok (.ifCond .ne 17, 3) := by decide +kernel
theorem dX8_drain_43 : decode cX8_drain 43 = .ok (.aload_n 0, 1) := by decide +kernel
theorem dX8_drain_44 : decode cX8_drain 44 = .ok (.getfield 32, 3) := by decide +kernel
theorem dX8_drain_47 : decode cX8_drain 47 = .ok (.iload_n 1, 1) := by decide +kernel
theorem dX8_drain_48 : decode cX8_drain 48 = .ok (.iconst 3, 1) := by decide +kernel
theorem dX8_drain_49 : decode cX8_drain 49 = .ok (.iastore, 1) := by decide +kernel
theorem dX8_drain_50 : decode cX8_drain 50 = .ok (.aload_n 0, 1) := by decide +kernel
theorem dX8_drain_51 : decode cX8_drain 51 = .ok (.getfield 48, 3) := by decide +kernel
theorem dX8_drain_54 : decode cX8_drain 54 = .ok (.iload_n 1, 1) := by decide +kernel
theorem dX8_drain_55 : decode cX8_drain 55 = .ok (.iconst 0, 1) := by decide +kernel
theorem dX8_drain_56 : decode cX8_drain 56 = .ok (.bastore, 1) := by decide +kernel
theorem dX8_drain_57 : decode cX8_drain 57 = .ok (.return_, 1) := by decide +kernel
theorem dX8_state_0 : decode cX8_state 0 = .ok (.aload_n 0, 1) := by decide +kernel
theorem dX8_state_1 : decode cX8_state 1 = .ok (.aload_n 0, 1) := by decide +kernel
theorem dX8_state_2 : decode cX8_state 2 = .ok (.iload_n 1, 1) := by decide +kernel
theorem dX8_state_3 : decode cX8_state 3 = .ok (.invokevirtual 147, 3) := by decide +kernel
theorem dX8_state_6 : decode cX8_state 6 = .ok (.ifCond .eq 7, 3) := by decide +kernel
theorem dX8_state_9 : decode cX8_state 9 = .ok (.iconst 0, 1) := by decide +kernel
theorem dX8_state_10 : decode cX8_state 10 = .ok (.goto 4, 3) := by decide +kernel
theorem dX8_state_13 : decode cX8_state 13 = .ok (.iconst 1, 1) := by decide +kernel
theorem dX8_state_14 : decode cX8_state 14 = .ok (.invokevirtual 144, 3) := by decide +kernel
theorem dX8_state_17 : decode cX8_state 17 = .ok (.ifCond .eq 7, 3) := by decide +kernel
theorem dX8_state_20 : decode cX8_state 20 = .ok (.iconst 0, 1) := by decide +kernel
theorem dX8_state_21 : decode cX8_state 21 = .ok (.goto 9, 3) := by decide +kernel
theorem dX8_state_24 : decode cX8_state 24 = .ok (.aload_n 0, 1) := by decide +kernel
theorem dX8_state_25 : decode cX8_state 25 = .ok (.getfield 32, 3) := by decide +kernel
theorem dX8_state_28 : decode cX8_state 28 = .ok (.iload_n 1, 1) := by decide +kernel
theorem dX8_state_29 : decode cX8_state 29 = .ok (.iaload, 1) := by decide +kernel
theorem dX8_state_30 : decode cX8_state 30 = .ok (.ireturn, 1) := by decide +kernel
theorem dX8_placeOf_0 : decode cX8_placeOf 0 = .ok (.iload_n 0, 1) := by decide +kernel
theorem dX8_placeOf_1 : decode cX8_placeOf 1 = .ok (.i2l, 1) := by decide +kernel
theorem dX8_placeOf_2 : decode cX8_placeOf 2 = .ok (.iload_n 1, 1) := by decide +kernel
theorem dX8_placeOf_3 : decode cX8_placeOf 3 = .ok (.i2l, 1) := by decide +kernel
theorem dX8_placeOf_4 : decode cX8_placeOf 4 = .ok (.lmul, 1) := by decide +kernel
theorem dX8_placeOf_5 : decode cX8_placeOf 5 = .ok (.iload_n 2, 1) := by decide +kernel
theorem dX8_placeOf_6 : decode cX8_placeOf 6 = .ok (.i2l, 1) := by decide +kernel
theorem dX8_placeOf_7 : decode cX8_placeOf 7 = .ok (.ldiv, 1) := by decide +kernel
theorem dX8_placeOf_8 : decode cX8_placeOf 8 = .ok (.l2i, 1) := by decide +kernel
theorem dX8_placeOf_9 : decode cX8_placeOf 9 = .ok (.ireturn, 1) := by decide +kernel
theorem dX8_phaseOf_0 : decode cX8_phaseOf 0 = .ok (.iload_n 0, 1) := by decide +kernel
theorem dX8_phaseOf_1 : decode cX8_phaseOf 1 = .ok (.i2l, 1) := by decide +kernel
theorem dX8_phaseOf_2 : decode cX8_phaseOf 2 = .ok (.iload_n 1, 1) := by decide +kernel
theorem dX8_phaseOf_3 : decode cX8_phaseOf 3 = .ok (.i2l, 1) := by decide +kernel
theorem dX8_phaseOf_4 : decode cX8_phaseOf 4 = .ok (.lmul, 1) := by decide +kernel
theorem dX8_phaseOf_5 : decode cX8_phaseOf 5 = .ok (.iload_n 2, 1) := by decide +kernel
theorem dX8_phaseOf_6 : decode cX8_phaseOf 6 = .ok (.i2l, 1) := by decide +kernel
theorem dX8_phaseOf_7 : decode cX8_phaseOf 7 = .ok (.lrem, 1) := by decide +kernel
theorem dX8_phaseOf_8 : decode cX8_phaseOf 8 = .ok (.ldc2_w 152, 3) := by decide +kernel
theorem dX8_phaseOf_11 : decode cX8_phaseOf 11 = .ok (.lmul, 1) := by decide +kernel
theorem dX8_phaseOf_12 : decode cX8_phaseOf 12 = .ok (.iload_n 2, 1) := by decide +kernel
theorem dX8_phaseOf_13 : decode cX8_phaseOf 13 = .ok (.i2l, 1) := by decide +kernel
theorem dX8_phaseOf_14 : decode cX8_phaseOf 14 = .ok (.ldiv, 1) := by decide +kernel
theorem dX8_phaseOf_15 : decode cX8_phaseOf 15 = .ok (.l2i, 1) := by decide +kernel
theorem dX8_phaseOf_16 : decode cX8_phaseOf 16 = .ok (.ireturn, 1) := by decide +kernel
theorem dX8_sampleAt_0 : decode cX8_sampleAt 0 = .ok (.iload_n 2, 1) := by decide +kernel
theorem dX8_sampleAt_1 : decode cX8_sampleAt 1 = .ok (.ifCond .lt 13, 3) := by decide +kernel
theorem dX8_sampleAt_4 : decode cX8_sampleAt 4 = .ok (.iload_n 2, 1) := by decide +kernel
theorem dX8_sampleAt_5 : decode cX8_sampleAt 5 = .ok (.aload_n 0, 1) := by decide +kernel
theorem dX8_sampleAt_6 : decode cX8_sampleAt 6 = .ok (.getfield 38, 3) := by decide +kernel
theorem dX8_sampleAt_9 : decode cX8_sampleAt 9 = .ok (.iload_n 1, 1) := by decide +kernel
theorem dX8_sampleAt_10 : decode cX8_sampleAt 10 = .ok (.iaload, 1) := by decide +kernel
theorem dX8_sampleAt_11 : decode cX8_sampleAt 11 = .ok (.if_icmp .lt 7, 3) := by decide +kernel
theorem dX8_sampleAt_14 : decode cX8_sampleAt 14 = .ok (.iconst 0, 1) := by decide +kernel
theorem dX8_sampleAt_15 : decode cX8_sampleAt 15 = .ok (.goto 34, 3) := by decide +kernel
theorem dX8_sampleAt_18 : decode cX8_sampleAt 18 = .ok (.iload_n 3, 1) := by decide +kernel
theorem dX8_sampleAt_19 : decode cX8_sampleAt 19 = .ok (.ifCond .eq 18, 3) := by decide +kernel
theorem dX8_sampleAt_22 : decode cX8_sampleAt 22 = .ok (.aload_n 0, 1) := by decide +kernel
theorem dX8_sampleAt_23 : decode cX8_sampleAt 23 = .ok (.getfield 45, 3) := by decide +kernel
theorem dX8_sampleAt_26 : decode cX8_sampleAt 26 = .ok (.sipush 12800, 3) := by decide +kernel
theorem dX8_sampleAt_29 : decode cX8_sampleAt 29 = .ok (.iload_n 1, 1) := by decide +kernel
theorem dX8_sampleAt_30 : decode cX8_sampleAt 30 = .ok (.imul, 1) := by decide +kernel
theorem dX8_sampleAt_31 : decode cX8_sampleAt 31 = .ok (.iload_n 2, 1) := by decide +kernel
theorem dX8_sampleAt_32 : decode cX8_sampleAt 32 = .ok (.iadd, 1) := by decide +kernel
theorem dX8_sampleAt_33 : decode cX8_sampleAt 33 = .ok (.iaload, 1) := by decide +kernel
theorem dX8_sampleAt_34 : decode cX8_sampleAt 34 = .ok (.goto 15, 3) := by decide +kernel
theorem dX8_sampleAt_37 : decode cX8_sampleAt 37 = .ok (.aload_n 0, 1) := by decide +kernel
theorem dX8_sampleAt_38 : decode cX8_sampleAt 38 = .ok (.getfield 42, 3) := by decide +kernel
theorem dX8_sampleAt_41 : decode cX8_sampleAt 41 = .ok (.sipush 12800, 3) := by decide +kernel
theorem dX8_sampleAt_44 : decode cX8_sampleAt 44 = .ok (.iload_n 1, 1) := by decide +kernel
theorem dX8_sampleAt_45 : decode cX8_sampleAt 45 = .ok (.imul, 1) := by decide +kernel
theorem dX8_sampleAt_46 : decode cX8_sampleAt 46 = .ok (.iload_n 2, 1) := by decide +kernel
theorem dX8_sampleAt_47 : decode cX8_sampleAt 47 = .ok (.iadd, 1) := by decide +kernel
theorem dX8_sampleAt_48 : decode cX8_sampleAt 48 = .ok (.iaload, 1) := by decide +kernel
theorem dX8_sampleAt_49 : decode cX8_sampleAt 49 = .ok (.ireturn, 1) := by decide +kernel
theorem dX8_between_0 : decode cX8_between 0 = .ok (.iload_n 2, 1) := by decide +kernel
theorem dX8_between_1 : decode cX8_between 1 = .ok (.iload_n 3, 1) := by decide +kernel
theorem dX8_between_2 : decode cX8_between 2 = .ok (.iload 4, 2) := by decide +kernel
theorem dX8_between_4 : decode cX8_between 4 = .ok (.invokestatic 154, 3) := by decide +kernel
theorem dX8_between_7 : decode cX8_between 7 = .ok (.istore 6, 2) := by decide +kernel
theorem dX8_between_9 : decode cX8_between 9 = .ok (.iload_n 3, 1) := by decide +kernel
theorem dX8_between_10 : decode cX8_between 10 = .ok (.iload 4, 2) := by decide +kernel
theorem dX8_between_12 : decode cX8_between 12 = .ok (.if_icmp .ne 13, 3) := by decide +kernel
theorem dX8_between_15 : decode cX8_between 15 = .ok (.aload_n 0, 1) := by decide +kernel
theorem dX8_between_16 : decode cX8_between 16 = .ok (.iload_n 1, 1) := by decide +kernel
theorem dX8_between_17 : decode cX8_between 17 = .ok (.iload 6, 2) := by decide +kernel
theorem dX8_between_19 : decode cX8_between 19 = .ok (.iload 5, 2) := by decide +kernel
theorem dX8_between_21 : decode cX8_between 21 = .ok (.invokevirtual 158, 3) := by decide +kernel
theorem dX8_between_24 : decode cX8_between 24 = .ok (.ireturn, 1) := by decide +kernel
theorem dX8_between_25 : decode cX8_between 25 = .ok (.iload_n 2, 1) := by decide +kernel
theorem dX8_between_26 : decode cX8_between 26 = .ok (.iload_n 3, 1) := by decide +kernel
theorem dX8_between_27 : decode cX8_between 27 = .ok (.iload 4, 2) := by decide +kernel
theorem dX8_between_29 : decode cX8_between 29 = .ok (.invokestatic 162, 3) := by decide +kernel
theorem dX8_between_32 : decode cX8_between 32 = .ok (.istore 7, 2) := by decide +kernel
theorem dX8_between_34 : decode cX8_between 34 = .ok (.lconst 0, 1) := by decide +kernel
theorem dX8_between_35 : decode cX8_between 35 = .ok (.lstore 8, 2) := by decide +kernel
theorem dX8_between_37 : decode cX8_between 37 = .ok (.iconst 0, 1) := by decide +kernel
theorem dX8_between_38 : decode cX8_between 38 = .ok (.istore 10, 2) := by decide +kernel
theorem dX8_between_40 : decode cX8_between 40 = .ok (.iload 10, 2) := by decide +kernel
theorem dX8_between_42 : decode cX8_between 42 = .ok (.bipush 16, 2) := by decide +kernel
theorem dX8_between_44 : decode cX8_between 44 = .ok (.if_icmp .ge 45, 3) := by decide +kernel
theorem dX8_between_47 : decode cX8_between 47 = .ok (.lload 8, 2) := by decide +kernel
theorem dX8_between_49 : decode cX8_between 49 = .ok (.aload_n 0, 1) := by decide +kernel
theorem dX8_between_50 : decode cX8_between 50 = .ok (.getfield 7, 3) := by decide +kernel
theorem dX8_between_53 : decode cX8_between 53 = .ok (.bipush 16, 2) := by decide +kernel
theorem dX8_between_55 : decode cX8_between 55 = .ok (.iload 7, 2) := by decide +kernel
theorem dX8_between_57 : decode cX8_between 57 = .ok (.imul, 1) := by decide +kernel
theorem dX8_between_58 : decode cX8_between 58 = .ok (.iload 10, 2) := by decide +kernel
theorem dX8_between_60 : decode cX8_between 60 = .ok (.iadd, 1) := by decide +kernel
theorem dX8_between_61 : decode cX8_between 61 = .ok (.iaload, 1) := by decide +kernel
theorem dX8_between_62 : decode cX8_between 62 = .ok (.i2l, 1) := by decide +kernel
theorem dX8_between_63 : decode cX8_between 63 = .ok (.aload_n 0, 1) := by decide +kernel
theorem dX8_between_64 : decode cX8_between 64 = .ok (.iload_n 1, 1) := by decide +kernel
theorem dX8_between_65 : decode cX8_between 65 = .ok (.iload 6, 2) := by decide +kernel
theorem dX8_between_67 : decode cX8_between 67 = .ok (.iload 10, 2) := by decide +kernel
theorem dX8_between_69 : decode cX8_between 69 = .ok (.iadd, 1) := by decide +kernel
theorem dX8_between_70 : decode cX8_between 70 = .ok (.bipush 7, 2) := by decide +kernel
theorem dX8_between_72 : decode cX8_between 72 = .ok (.isub, 1) := by decide +kernel
theorem dX8_between_73 : decode cX8_between 73 = .ok (.iload 5, 2) := by decide +kernel
theorem dX8_between_75 : decode cX8_between 75 = .ok (.invokevirtual 158, 3) := by decide +kernel
theorem dX8_between_78 : decode cX8_between 78 = .ok (.i2l, 1) := by decide +kernel
theorem dX8_between_79 : decode cX8_between 79 = .ok (.lmul, 1) := by decide +kernel
theorem dX8_between_80 : decode cX8_between 80 = .ok (.ladd, 1) := by decide +kernel
theorem dX8_between_81 : decode cX8_between 81 = .ok (.lstore 8, 2) := by decide +kernel
theorem dX8_between_83 : decode cX8_between 83 = .ok (.iinc 10 1, 3) := by decide +kernel
theorem dX8_between_86 : decode cX8_between 86 = .ok (.goto (-46), 3) := by decide +kernel
theorem dX8_between_89 : decode cX8_between 89 = .ok (.lload 8, 2) := by decide +kernel
theorem dX8_between_91 : decode cX8_between 91 = .ok (.ldc2_w 165, 3) := by decide +kernel
theorem dX8_between_94 : decode cX8_between 94 = .ok (.invokestatic 134, 3) := by decide +kernel
theorem dX8_between_97 : decode cX8_between 97 = .ok (.l2i, 1) := by decide +kernel
theorem dX8_between_98 : decode cX8_between 98 = .ok (.ireturn, 1) := by decide +kernel
theorem dX8_isBacked_0 : decode cX8_isBacked 0 = .ok (.iload_n 2, 1) := by decide +kernel
theorem dX8_isBacked_1 : decode cX8_isBacked 1 = .ok (.iload_n 3, 1) := by decide +kernel
theorem dX8_isBacked_2 : decode cX8_isBacked 2 = .ok (.iload 4, 2) := by decide +kernel
theorem dX8_isBacked_4 : decode cX8_isBacked 4 = .ok (.invokestatic 154, 3) := by decide +kernel
theorem dX8_isBacked_7 : decode cX8_isBacked 7 = .ok (.iload_n 3, 1) := by decide +kernel
theorem dX8_isBacked_8 : decode cX8_isBacked 8 = .ok (.iload 4, 2) := by decide +kernel
theorem dX8_isBacked_10 : decode cX8_isBacked 10 = .ok (.if_icmp .ne 7, 3) := by decide +kernel
theorem dX8_isBacked_13 : decode cX8_isBacked 13 = .ok (.iconst 0, 1) := by decide +kernel
theorem dX8_isBacked_14 : decode cX8_isBacked 14 = .ok (.goto 5, 3) := by decide +kernel
theorem dX8_isBacked_17 : decode cX8_isBacked 17 = .ok (.bipush 8, 2) := by decide +kernel
theorem dX8_isBacked_19 : decode cX8_isBacked 19 = .ok (.iadd, 1) := by decide +kernel
theorem dX8_isBacked_20 : decode cX8_isBacked 20 = .ok (.aload_n 0, 1) := by decide +kernel
theorem dX8_isBacked_21 : decode cX8_isBacked 21 = .ok (.getfield 38, 3) := by decide +kernel
theorem dX8_isBacked_24 : decode cX8_isBacked 24 = .ok (.iload_n 1, 1) := by decide +kernel
theorem dX8_isBacked_25 : decode cX8_isBacked 25 = .ok (.iaload, 1) := by decide +kernel
theorem dX8_isBacked_26 : decode cX8_isBacked 26 = .ok (.if_icmp .ge 7, 3) := by decide +kernel
theorem dX8_isBacked_29 : decode cX8_isBacked 29 = .ok (.iconst 1, 1) := by decide +kernel
theorem dX8_isBacked_30 : decode cX8_isBacked 30 = .ok (.goto 4, 3) := by decide +kernel
theorem dX8_isBacked_33 : decode cX8_isBacked 33 = .ok (.iconst 0, 1) := by decide +kernel
theorem dX8_isBacked_34 : decode cX8_isBacked 34 = .ok (.ireturn, 1) := by decide +kernel
end
section
theorem dX8_place_0 : decode cX8_place 0 = .ok (.aload_n 0, 1) := by decide +kernel
theorem dX8_place_1 : decode cX8_place 1 = .ok (.getfield 54, 3) := by decide +kernel
theorem dX8_place_4 : decode cX8_place 4 = .ok (.iload_n 1, 1) := by decide +kernel
theorem dX8_place_5 : decode cX8_place 5 = .ok (.iaload, 1) := by decide +kernel
theorem dX8_place_6 : decode cX8_place 6 = .ok (.aload_n 0, 1) := by decide +kernel
theorem dX8_place_7 : decode cX8_place 7 = .ok (.getfield 20, 3) := by decide +kernel
theorem dX8_place_10 : decode cX8_place 10 = .ok (.iload_n 1, 1) := by decide +kernel
theorem dX8_place_11 : decode cX8_place 11 = .ok (.iaload, 1) := by decide +kernel
theorem dX8_place_12 : decode cX8_place 12 = .ok (.ldc 139, 2) := by decide +kernel
theorem dX8_place_14 : decode cX8_place 14 = .ok (.invokestatic 154, 3) := by decide +kernel
theorem dX8_place_17 : decode cX8_place 17 = .ok (.ireturn, 1) := by decide +kernel
theorem dX8_toSample_0 : decode cX8_toSample 0 = .ok (.aload_n 0, 1) := by decide +kernel
theorem dX8_toSample_1 : decode cX8_toSample 1 = .ok (.getfield 26, 3) := by decide +kernel
theorem dX8_toSample_4 : decode cX8_toSample 4 = .ok (.iload_n 1, 1) := by decide +kernel
theorem dX8_toSample_5 : decode cX8_toSample 5 = .ok (.iaload, 1) := by decide +kernel
theorem dX8_toSample_6 : decode cX8_toSample 6 = .ok (.bipush 8, 2) := by decide +kernel
theorem dX8_toSample_8 : decode cX8_toSample 8 = .ok (.if_icmp .ne 15, 3) := by decide +kernel
theorem dX8_toSample_11 : decode cX8_toSample 11 = .ok (.iload_n 2, 1) := by decide +kernel
theorem dX8_toSample_12 : decode cX8_toSample 12 = .ok (.sipush 128, 3) := by decide +kernel
theorem dX8_toSample_15 : decode cX8_toSample 15 = .ok (.isub, 1) := by decide +kernel
theorem dX8_toSample_16 : decode cX8_toSample 16 = .ok (.sipush 256, 3) := by decide +kernel
theorem dX8_toSample_19 : decode cX8_toSample 19 = .ok (.imul, 1) := by decide +kernel
theorem dX8_toSample_20 : decode cX8_toSample 20 = .ok (.goto 4, 3) := by decide +kernel
theorem dX8_toSample_23 : decode cX8_toSample 23 = .ok (.iload_n 2, 1) := by decide +kernel
theorem dX8_toSample_24 : decode cX8_toSample 24 = .ok (.ireturn, 1) := by decide +kernel
theorem dX8_isNumber_0 : decode cX8_isNumber 0 = .ok (.aload_n 0, 1) := by decide +kernel
theorem dX8_isNumber_1 : decode cX8_isNumber 1 = .ok (.getfield 26, 3) := by decide +kernel
theorem dX8_isNumber_4 : decode cX8_isNumber 4 = .ok (.iload_n 1, 1) := by decide +kernel
theorem dX8_isNumber_5 : decode cX8_isNumber 5 = .ok (.iaload, 1) := by decide +kernel
theorem dX8_isNumber_6 : decode cX8_isNumber 6 = .ok (.bipush 8, 2) := by decide +kernel
theorem dX8_isNumber_8 : decode cX8_isNumber 8 = .ok (.if_icmp .ne 14, 3) := by decide +kernel
theorem dX8_isNumber_11 : decode cX8_isNumber 11 = .ok (.iload_n 2, 1) := by decide +kernel
theorem dX8_isNumber_12 : decode cX8_isNumber 12 = .ok (.iconst 0, 1) := by decide +kernel
theorem dX8_isNumber_13 : decode cX8_isNumber 13 = .ok (.sipush 255, 3) := by decide +kernel
theorem dX8_isNumber_16 : decode cX8_isNumber 16 = .ok (.invokestatic 130, 3) := by decide +kernel
theorem dX8_isNumber_19 : decode cX8_isNumber 19 = .ok (.goto 13, 3) := by decide +kernel
theorem dX8_isNumber_22 : decode cX8_isNumber 22 = .ok (.iload_n 2, 1) := by decide +kernel
theorem dX8_isNumber_23 : decode cX8_isNumber 23 = .ok (.sipush (-32768), 3) := by decide +kernel
theorem dX8_isNumber_26 : decode cX8_isNumber 26 = .ok (.sipush 32767, 3) := by decide +kernel
theorem dX8_isNumber_29 : decode cX8_isNumber 29 = .ok (.invokestatic 130, 3) := by decide +kernel
theorem dX8_isNumber_32 : decode cX8_isNumber 32 = .ok (.ireturn, 1) := by decide +kernel
theorem dX8_spare_0 : decode cX8_spare 0 = .ok (.sipush 200, 3) := by decide +kernel
theorem dX8_spare_3 : decode cX8_spare 3 = .ok (.aload_n 0, 1) := by decide +kernel
theorem dX8_spare_4 : decode cX8_spare 4 = .ok (.getfield 38, 3) := by decide +kernel
theorem dX8_spare_7 : decode cX8_spare 7 = .ok (.iload_n 1, 1) := by decide +kernel
theorem dX8_spare_8 : decode cX8_spare 8 = .ok (.iaload, 1) := by decide +kernel
theorem dX8_spare_9 : decode cX8_spare 9 = .ok (.aload_n 0, 1) := by decide +kernel
theorem dX8_spare_10 : decode cX8_spare 10 = .ok (.iload_n 1, 1) := by decide +kernel
theorem dX8_spare_11 : decode cX8_spare 11 = .ok (.invokevirtual 167, 3) := by decide +kernel
theorem dX8_spare_14 : decode cX8_spare 14 = .ok (.isub, 1) := by decide +kernel
theorem dX8_spare_15 : decode cX8_spare 15 = .ok (.isub, 1) := by decide +kernel
theorem dX8_spare_16 : decode cX8_spare 16 = .ok (.ireturn, 1) := by decide +kernel
theorem dX8_add_0 : decode cX8_add 0 = .ok (.aload_n 0, 1) := by decide +kernel
theorem dX8_add_1 : decode cX8_add 1 = .ok (.getfield 42, 3) := by decide +kernel
theorem dX8_add_4 : decode cX8_add 4 = .ok (.sipush 12800, 3) := by decide +kernel
theorem dX8_add_7 : decode cX8_add 7 = .ok (.iload_n 1, 1) := by decide +kernel
theorem dX8_add_8 : decode cX8_add 8 = .ok (.imul, 1) := by decide +kernel
theorem dX8_add_9 : decode cX8_add 9 = .ok (.aload_n 0, 1) := by decide +kernel
theorem dX8_add_10 : decode cX8_add 10 = .ok (.getfield 38, 3) := by decide +kernel
theorem dX8_add_13 : decode cX8_add 13 = .ok (.iload_n 1, 1) := by decide +kernel
theorem dX8_add_14 : decode cX8_add 14 = .ok (.iaload, 1) := by decide +kernel
theorem dX8_add_15 : decode cX8_add 15 = .ok (.iadd, 1) := by decide +kernel
theorem dX8_add_16 : decode cX8_add 16 = .ok (.iload_n 2, 1) := by decide +kernel
theorem dX8_add_17 : decode cX8_add 17 = .ok (.iastore, 1) := by decide +kernel
theorem dX8_add_18 : decode cX8_add 18 = .ok (.aload_n 0, 1) := by decide +kernel
theorem dX8_add_19 : decode cX8_add 19 = .ok (.getfield 45, 3) := by decide +kernel
theorem dX8_add_22 : decode cX8_add 22 = .ok (.sipush 12800, 3) := by decide +kernel
theorem dX8_add_25 : decode cX8_add 25 = .ok (.iload_n 1, 1) := by decide +kernel
theorem dX8_add_26 : decode cX8_add 26 = .ok (.imul, 1) := by decide +kernel
theorem dX8_add_27 : decode cX8_add 27 = .ok (.aload_n 0, 1) := by decide +kernel
theorem dX8_add_28 : decode cX8_add 28 = .ok (.getfield 38, 3) := by decide +kernel
theorem dX8_add_31 : decode cX8_add 31 = .ok (.iload_n 1, 1) := by decide +kernel
theorem dX8_add_32 : decode cX8_add 32 = .ok (.iaload, 1) := by decide +kernel
theorem dX8_add_33 : decode cX8_add 33 = .ok (.iadd, 1) := by decide +kernel
theorem dX8_add_34 : decode cX8_add 34 = .ok (.iload_n 3, 1) := by decide +kernel
theorem dX8_add_35 : decode cX8_add 35 = .ok (.iastore, 1) := by decide +kernel
theorem dX8_add_36 : decode cX8_add 36 = .ok (.aload_n 0, 1) := by decide +kernel
theorem dX8_add_37 : decode cX8_add 37 = .ok (.getfield 38, 3) := by decide +kernel
theorem dX8_add_40 : decode cX8_add 40 = .ok (.iload_n 1, 1) := by decide +kernel
theorem dX8_add_41 : decode cX8_add 41 = .ok (.dup2, 1) := by decide +kernel
theorem dX8_add_42 : decode cX8_add 42 = .ok (.iaload, 1) := by decide +kernel
theorem dX8_add_43 : decode cX8_add 43 = .ok (.iconst 1, 1) := by decide +kernel
theorem dX8_add_44 : decode cX8_add 44 = .ok (.iadd, 1) := by decide +kernel
theorem dX8_add_45 : decode cX8_add 45 = .ok (.iastore, 1) := by decide +kernel
theorem dX8_add_46 : decode cX8_add 46 = .ok (.return_, 1) := by decide +kernel
theorem dX8_write_0 : decode cX8_write 0 = .ok (.aload_n 0, 1) := by decide +kernel
theorem dX8_write_1 : decode cX8_write 1 = .ok (.iload_n 1, 1) := by decide +kernel
theorem dX8_write_2 : decode cX8_write 2 = .ok (.invokevirtual 147, 3) := by decide +kernel
theorem dX8_write_5 : decode cX8_write 5 = .ok (.ifCond .eq 25, 3) := by decide +kernel
theorem dX8_write_8 : decode cX8_write 8 = .ok (.aload_n 0, 1) := by decide +kernel
theorem dX8_write_9 : decode cX8_write 9 = .ok (.getfield 17, 3) := by decide +kernel
theorem dX8_write_12 : decode cX8_write 12 = .ok (.iload_n 1, 1) := by decide +kernel
theorem dX8_write_13 : decode cX8_write 13 = .ok (.baload, 1) := by decide +kernel
theorem dX8_write_14 : decode cX8_write 14 = .ok (.ifCond .eq 16, 3) := by decide +kernel
theorem dX8_write_17 : decode cX8_write 17 = .ok (.aload_n 0, 1) := by decide +kernel
theorem dX8_write_18 : decode cX8_write 18 = .ok (.iload_n 1, 1) := by decide +kernel
theorem dX8_write_19 : decode cX8_write 19 = .ok (.iload_n 2, 1) := by decide +kernel
theorem dX8_write_20 : decode cX8_write 20 = .ok (.invokevirtual 171, 3) := by decide +kernel
theorem dX8_write_23 : decode cX8_write 23 = .ok (.ifCond .eq 7, 3) := by decide +kernel
theorem dX8_write_26 : decode cX8_write 26 = .ok (.iconst 1, 1) := by decide +kernel
theorem dX8_write_27 : decode cX8_write 27 = .ok (.goto 4, 3) := by decide +kernel
theorem dX8_write_30 : decode cX8_write 30 = .ok (.iconst 0, 1) := by decide +kernel
theorem dX8_write_31 : decode cX8_write 31 = .ok (.istore_n 3, 1) := by decide +kernel
theorem dX8_write_32 : decode cX8_write 32 = .ok (.aload_n 0, 1) := by decide +kernel
theorem dX8_write_33 : decode cX8_write 33 = .ok (.iload_n 3, 1) := by decide +kernel
theorem dX8_write_34 : decode cX8_write 34 = .ok (.ifCond .ne 7, 3) := by decide +kernel
theorem dX8_write_37 : decode cX8_write 37 = .ok (.iconst 1, 1) := by decide +kernel
theorem dX8_write_38 : decode cX8_write 38 = .ok (.goto 18, 3) := by decide +kernel
theorem dX8_write_41 : decode cX8_write 41 = .ok (.aload_n 0, 1) := by decide +kernel
theorem dX8_write_42 : decode cX8_write 42 = .ok (.getfield 32, 3) := by decide +kernel
theorem dX8_write_45 : decode cX8_write 45 = .ok (.iload_n 1, 1) := by decide +kernel
theorem dX8_write_46 : decode cX8_write 46 = .ok (.iaload, 1) := by decide +kernel
theorem dX8_write_47 : decode cX8_write 47 = .ok (.iconst 2, 1) := by decide +kernel
theorem dX8_write_48 : decode cX8_write 48 = .ok (.if_icmp .le 7, 3) := by decide +kernel
theorem dX8_write_51 : decode cX8_write 51 = .ok (.iconst 2, 1) := by decide +kernel
theorem dX8_write_52 : decode cX8_write 52 = .ok (.goto 4, 3) := by decide +kernel
theorem dX8_write_55 : decode cX8_write 55 = .ok (.iconst 0, 1) := by decide +kernel
theorem dX8_write_56 : decode cX8_write 56 = .ok (.invokevirtual 144, 3) := by decide +kernel
theorem dX8_write_59 : decode cX8_write 59 = .ok (.ifCond .eq 5, 3) := by decide +kernel
theorem dX8_write_62 : decode cX8_write 62 = .ok (.iconst 0, 1) := by decide +kernel
theorem dX8_write_63 : decode cX8_write 63 = .ok (.ireturn, 1) := by decide +kernel
theorem dX8_write_64 : decode cX8_write 64 = .ok (.aload_n 0, 1) := by decide +kernel
theorem dX8_write_65 : decode cX8_write 65 = .ok (.iload_n 1, 1) := by decide +kernel
theorem dX8_write_66 : decode cX8_write 66 = .ok (.invokevirtual 175, 3) := by decide +kernel
theorem dX8_write_69 : decode cX8_write 69 = .ok (.ifCond .gt 5, 3) := by decide +kernel
theorem dX8_write_72 : decode cX8_write 72 = .ok (.iconst 0, 1) := by decide +kernel
theorem dX8_write_73 : decode cX8_write 73 = .ok (.ireturn, 1) := by decide +kernel
theorem dX8_write_74 : decode cX8_write 74 = .ok (.aload_n 0, 1) := by decide +kernel
theorem dX8_write_75 : decode cX8_write 75 = .ok (.iload_n 1, 1) := by decide +kernel
theorem dX8_write_76 : decode cX8_write 76 = .ok (.iload_n 2, 1) := by decide +kernel
theorem dX8_write_77 : decode cX8_write 77 = .ok (.invokevirtual 178, 3) := by decide +kernel
theorem dX8_write_80 : decode cX8_write 80 = .ok (.istore 4, 2) := by decide +kernel
theorem dX8_write_82 : decode cX8_write 82 = .ok (.aload_n 0, 1) := by decide +kernel
theorem dX8_write_83 : decode cX8_write 83 = .ok (.getfield 23, 3) := by decide +kernel
theorem dX8_write_86 : decode cX8_write 86 = .ok (.iload_n 1, 1) := by decide +kernel
theorem dX8_write_87 : decode cX8_write 87 = .ok (.iaload, 1) := by decide +kernel
theorem dX8_write_88 : decode cX8_write 88 = .ok (.iconst 1, 1) := by decide +kernel
theorem dX8_write_89 : decode cX8_write 89 = .ok (.if_icmp .ne 15, 3) := by decide +kernel
theorem dX8_write_92 : decode cX8_write 92 = .ok (.aload_n 0, 1) := by decide +kernel
theorem dX8_write_93 : decode cX8_write 93 = .ok (.iload_n 1, 1) := by decide +kernel
theorem dX8_write_94 : decode cX8_write 94 = .ok (.iload 4, 2) := by decide +kernel
theorem dX8_write_96 : decode cX8_write 96 = .ok (.iload 4, 2) := by decide +kernel
theorem dX8_write_98 : decode cX8_write 98 = .ok (.invokevirtual 181, 3) := by decide +kernel
theorem dX8_write_101 : decode cX8_write 101 = .ok (.goto 50, 3) := by decide +kernel
theorem dX8_write_104 : decode cX8_write 104 = .ok (.aload_n 0, 1) := by decide +kernel
theorem dX8_write_105 : decode cX8_write 105 = .ok (.getfield 48, 3) := by decide +kernel
theorem dX8_write_108 : decode cX8_write 108 = .ok (.iload_n 1, 1) := by decide +kernel
theorem dX8_write_109 : decode cX8_write 109 = .ok (.baload, 1) := by decide +kernel
theorem dX8_write_110 : decode cX8_write 110 = .ok (.ifCond .eq 26, 3) := by decide +kernel
theorem dX8_write_113 : decode cX8_write 113 = .ok (.aload_n 0, 1) := by decide +kernel
theorem dX8_write_114 : decode cX8_write 114 = .ok (.iload_n 1, 1) := by decide +kernel
theorem dX8_write_115 : decode cX8_write 115 = .ok (.aload_n 0, 1) := by decide +kernel
theorem dX8_write_116 : decode cX8_write 116 = .ok (.getfield 51, 3) := by decide +kernel
theorem dX8_write_119 : decode cX8_write 119 = .ok (.iload_n 1, 1) := by decide +kernel
theorem dX8_write_120 : decode cX8_write 120 = .ok (.iaload, 1) := by decide +kernel
theorem dX8_write_121 : decode cX8_write 121 = .ok (.iload 4, 2) := by decide +kernel
theorem dX8_write_123 : decode cX8_write 123 = .ok (.invokevirtual 181, 3) := by decide +kernel
theorem dX8_write_126 : decode cX8_write 126 = .ok (.aload_n 0, 1) := by decide +kernel
theorem dX8_write_127 : decode cX8_write 127 = .ok (.getfield 48, 3) := by decide +kernel
theorem dX8_write_130 : decode cX8_write 130 = .ok (.iload_n 1, 1) := by decide +kernel
theorem dX8_write_131 : decode cX8_write 131 = .ok (.iconst 0, 1) := by decide +kernel
theorem dX8_write_132 : decode cX8_write 132 = .ok (.bastore, 1) := by decide +kernel
theorem dX8_write_133 : decode cX8_write 133 = .ok (.goto 18, 3) := by decide +kernel
theorem dX8_write_136 : decode cX8_write 136 = .ok (.aload_n 0, 1) := by decide +kernel
theorem dX8_write_137 : decode cX8_write 137 = .ok (.getfield 51, 3) := by decide +kernel
theorem dX8_write_140 : decode cX8_write 140 = .ok (.iload_n 1, 1) := by decide +kernel
theorem dX8_write_141 : decode cX8_write 141 = .ok (.iload 4, 2) := by decide +kernel
theorem dX8_write_143 : decode cX8_write 143 = .ok (.iastore, 1) := by decide +kernel
theorem dX8_write_144 : decode cX8_write 144 = .ok (.aload_n 0, 1) := by decide +kernel
theorem dX8_write_145 : decode cX8_write 145 = .ok (.getfield 48, 3) := by decide +kernel
theorem dX8_write_148 : decode cX8_write 148 = .ok (.iload_n 1, 1) := by decide +kernel
theorem dX8_write_149 : decode cX8_write 149 = .ok (.iconst 1, 1) := by decide +kernel
theorem dX8_write_150 : decode cX8_write 150 = .ok (.bastore, 1) := by decide +kernel
theorem dX8_write_151 : decode cX8_write 151 = .ok (.iconst 1, 1) := by decide +kernel
theorem dX8_write_152 : decode cX8_write 152 = .ok (.ireturn, 1) := by decide +kernel
theorem dX8_toNumber_0 : decode cX8_toNumber 0 = .ok (.aload_n 0, 1) := by decide +kernel
theorem dX8_toNumber_1 : decode cX8_toNumber 1 = .ok (.getfield 26, 3) := by decide +kernel
theorem dX8_toNumber_4 : decode cX8_toNumber 4 = .ok (.iload_n 1, 1) := by decide +kernel
theorem dX8_toNumber_5 : decode cX8_toNumber 5 = .ok (.iaload, 1) := by decide +kernel
theorem dX8_toNumber_6 : decode cX8_toNumber 6 = .ok (.bipush 8, 2) := by decide +kernel
theorem dX8_toNumber_8 : decode cX8_toNumber 8 = .ok (.if_icmp .ne 17, 3) := by decide +kernel
theorem dX8_toNumber_11 : decode cX8_toNumber 11 = .ok (.iload_n 2, 1) := by decide +kernel
theorem dX8_toNumber_12 : decode cX8_toNumber 12 = .ok (.sipush 256, 3) := by decide +kernel
theorem dX8_toNumber_15 : decode cX8_toNumber 15 = .ok (.invokestatic 185, 3) := by decide +kernel
theorem dX8_toNumber_18 : decode cX8_toNumber 18 = .ok (.sipush 128, 3) := by decide +kernel
theorem dX8_toNumber_21 : decode cX8_toNumber 21 = .ok (.iadd, 1) := by decide +kernel
theorem dX8_toNumber_22 : decode cX8_toNumber 22 = .ok (.goto 4, 3) := by decide +kernel
theorem dX8_toNumber_25 : decode cX8_toNumber 25 = .ok (.iload_n 2, 1) := by decide +kernel
theorem dX8_toNumber_26 : decode cX8_toNumber 26 = .ok (.ireturn, 1) := by decide +kernel
theorem dX8_read_0 : decode cX8_read 0 = .ok (.aload_n 0, 1) := by decide +kernel
theorem dX8_read_1 : decode cX8_read 1 = .ok (.iload_n 1, 1) := by decide +kernel
theorem dX8_read_2 : decode cX8_read 2 = .ok (.invokevirtual 147, 3) := by decide +kernel
theorem dX8_read_5 : decode cX8_read 5 = .ok (.ifCond .eq 16, 3) := by decide +kernel
theorem dX8_read_8 : decode cX8_read 8 = .ok (.aload_n 0, 1) := by decide +kernel
theorem dX8_read_9 : decode cX8_read 9 = .ok (.getfield 17, 3) := by decide +kernel
theorem dX8_read_12 : decode cX8_read 12 = .ok (.iload_n 1, 1) := by decide +kernel
theorem dX8_read_13 : decode cX8_read 13 = .ok (.baload, 1) := by decide +kernel
theorem dX8_read_14 : decode cX8_read 14 = .ok (.ifCond .ne 7, 3) := by decide +kernel
theorem dX8_read_17 : decode cX8_read 17 = .ok (.iconst 1, 1) := by decide +kernel
theorem dX8_read_18 : decode cX8_read 18 = .ok (.goto 4, 3) := by decide +kernel
theorem dX8_read_21 : decode cX8_read 21 = .ok (.iconst 0, 1) := by decide +kernel
theorem dX8_read_22 : decode cX8_read 22 = .ok (.istore_n 2, 1) := by decide +kernel
theorem dX8_read_23 : decode cX8_read 23 = .ok (.aload_n 0, 1) := by decide +kernel
theorem dX8_read_24 : decode cX8_read 24 = .ok (.iload_n 2, 1) := by decide +kernel
theorem dX8_read_25 : decode cX8_read 25 = .ok (.ifCond .ne 7, 3) := by decide +kernel
theorem dX8_read_28 : decode cX8_read 28 = .ok (.iconst 1, 1) := by decide +kernel
theorem dX8_read_29 : decode cX8_read 29 = .ok (.goto 17, 3) := by decide +kernel
theorem dX8_read_32 : decode cX8_read 32 = .ok (.aload_n 0, 1) := by decide +kernel
theorem dX8_read_33 : decode cX8_read 33 = .ok (.getfield 73, 3) := by decide +kernel
theorem dX8_read_36 : decode cX8_read 36 = .ok (.iload_n 1, 1) := by decide +kernel
theorem dX8_read_37 : decode cX8_read 37 = .ok (.iaload, 1) := by decide +kernel
theorem dX8_read_38 : decode cX8_read 38 = .ok (.ifCond .ne 7, 3) := by decide +kernel
theorem dX8_read_41 : decode cX8_read 41 = .ok (.iconst 2, 1) := by decide +kernel
theorem dX8_read_42 : decode cX8_read 42 = .ok (.goto 4, 3) := by decide +kernel
theorem dX8_read_45 : decode cX8_read 45 = .ok (.iconst 0, 1) := by decide +kernel
theorem dX8_read_46 : decode cX8_read 46 = .ok (.invokevirtual 144, 3) := by decide +kernel
theorem dX8_read_49 : decode cX8_read 49 = .ok (.ifCond .eq 5, 3) := by decide +kernel
theorem dX8_read_52 : decode cX8_read 52 = .ok (.iconst 0, 1) := by decide +kernel
theorem dX8_read_53 : decode cX8_read 53 = .ok (.ireturn, 1) := by decide +kernel
theorem dX8_read_54 : decode cX8_read 54 = .ok (.aload_n 0, 1) := by decide +kernel
theorem dX8_read_55 : decode cX8_read 55 = .ok (.getfield 76, 3) := by decide +kernel
theorem dX8_read_58 : decode cX8_read 58 = .ok (.sipush 12800, 3) := by decide +kernel
theorem dX8_read_61 : decode cX8_read 61 = .ok (.iload_n 1, 1) := by decide +kernel
theorem dX8_read_62 : decode cX8_read 62 = .ok (.imul, 1) := by decide +kernel
theorem dX8_read_63 : decode cX8_read 63 = .ok (.iaload, 1) := by decide +kernel
theorem dX8_read_64 : decode cX8_read 64 = .ok (.istore_n 3, 1) := by decide +kernel
theorem dX8_read_65 : decode cX8_read 65 = .ok (.aload_n 0, 1) := by decide +kernel
theorem dX8_read_66 : decode cX8_read 66 = .ok (.iload_n 1, 1) := by decide +kernel
theorem dX8_read_67 : decode cX8_read 67 = .ok (.iload_n 3, 1) := by decide +kernel
theorem dX8_read_68 : decode cX8_read 68 = .ok (.ldc 139, 2) := by decide +kernel
theorem dX8_read_70 : decode cX8_read 70 = .ok (.aload_n 0, 1) := by decide +kernel
theorem dX8_read_71 : decode cX8_read 71 = .ok (.getfield 20, 3) := by decide +kernel
theorem dX8_read_74 : decode cX8_read 74 = .ok (.iload_n 1, 1) := by decide +kernel
theorem dX8_read_75 : decode cX8_read 75 = .ok (.iaload, 1) := by decide +kernel
theorem dX8_read_76 : decode cX8_read 76 = .ok (.iconst 0, 1) := by decide +kernel
theorem dX8_read_77 : decode cX8_read 77 = .ok (.invokevirtual 188, 3) := by decide +kernel
theorem dX8_read_80 : decode cX8_read 80 = .ok (.istore 4, 2) := by decide +kernel
theorem dX8_read_82 : decode cX8_read 82 = .ok (.aload_n 0, 1) := by decide +kernel
theorem dX8_read_83 : decode cX8_read 83 = .ok (.iload_n 1, 1) := by decide +kernel
theorem dX8_read_84 : decode cX8_read 84 = .ok (.iload_n 3, 1) := by decide +kernel
theorem dX8_read_85 : decode cX8_read 85 = .ok (.ldc 139, 2) := by decide +kernel
theorem dX8_read_87 : decode cX8_read 87 = .ok (.aload_n 0, 1) := by decide +kernel
theorem dX8_read_88 : decode cX8_read 88 = .ok (.getfield 20, 3) := by decide +kernel
theorem dX8_read_91 : decode cX8_read 91 = .ok (.iload_n 1, 1) := by decide +kernel
theorem dX8_read_92 : decode cX8_read 92 = .ok (.iaload, 1) := by decide +kernel
theorem dX8_read_93 : decode cX8_read 93 = .ok (.iconst 1, 1) := by decide +kernel
theorem dX8_read_94 : decode cX8_read 94 = .ok (.invokevirtual 188, 3) := by decide +kernel
theorem dX8_read_97 : decode cX8_read 97 = .ok (.istore 5, 2) := by decide +kernel
theorem dX8_read_99 : decode cX8_read 99 = .ok (.aload_n 0, 1) := by decide +kernel
theorem dX8_read_100 : decode cX8_read 100 = .ok (.getfield 23, 3) := by decide +kernel
theorem dX8_read_103 : decode cX8_read 103 = .ok (.iload_n 1, 1) := by decide +kernel
theorem dX8_read_104 : decode cX8_read 104 = .ok (.iaload, 1) := by decide +kernel
theorem dX8_read_105 : decode cX8_read 105 = .ok (.iconst 2, 1) := by decide +kernel
theorem dX8_read_106 : decode cX8_read 106 = .ok (.if_icmp .ne 27, 3) := by decide +kernel
theorem dX8_read_109 : decode cX8_read 109 = .ok (.aload_n 0, 1) := by decide +kernel
theorem dX8_read_110 : decode cX8_read 110 = .ok (.getfield 48, 3) := by decide +kernel
theorem dX8_read_113 : decode cX8_read 113 = .ok (.iload_n 1, 1) := by decide +kernel
theorem dX8_read_114 : decode cX8_read 114 = .ok (.baload, 1) := by decide +kernel
theorem dX8_read_115 : decode cX8_read 115 = .ok (.ifCond .ne 18, 3) := by decide +kernel
theorem dX8_read_118 : decode cX8_read 118 = .ok (.aload_n 0, 1) := by decide +kernel
theorem dX8_read_119 : decode cX8_read 119 = .ok (.getfield 48, 3) := by decide +kernel
theorem dX8_read_122 : decode cX8_read 122 = .ok (.iload_n 1, 1) := by decide +kernel
theorem dX8_read_123 : decode cX8_read 123 = .ok (.iconst 1, 1) := by decide +kernel
theorem dX8_read_124 : decode cX8_read 124 = .ok (.bastore, 1) := by decide +kernel
theorem dX8_read_125 : decode cX8_read 125 = .ok (.aload_n 0, 1) := by decide +kernel
theorem dX8_read_126 : decode cX8_read 126 = .ok (.iload_n 1, 1) := by decide +kernel
theorem dX8_read_127 : decode cX8_read 127 = .ok (.iload 4, 2) := by decide +kernel
theorem dX8_read_129 : decode cX8_read 129 = .ok (.invokevirtual 192, 3) := by decide +kernel
theorem dX8_read_132 : decode cX8_read 132 = .ok (.ireturn, 1) := by decide +kernel
theorem dX8_read_133 : decode cX8_read 133 = .ok (.aload_n 0, 1) := by decide +kernel
theorem dX8_read_134 : decode cX8_read 134 = .ok (.getfield 48, 3) := by decide +kernel
theorem dX8_read_137 : decode cX8_read 137 = .ok (.iload_n 1, 1) := by decide +kernel
theorem dX8_read_138 : decode cX8_read 138 = .ok (.iconst 0, 1) := by decide +kernel
theorem dX8_read_139 : decode cX8_read 139 = .ok (.bastore, 1) := by decide +kernel
theorem dX8_read_140 : decode cX8_read 140 = .ok (.aload_n 0, 1) := by decide +kernel
theorem dX8_read_141 : decode cX8_read 141 = .ok (.getfield 73, 3) := by decide +kernel
theorem dX8_read_144 : decode cX8_read 144 = .ok (.iload_n 1, 1) := by decide +kernel
theorem dX8_read_145 : decode cX8_read 145 = .ok (.dup2, 1) := by decide +kernel
theorem dX8_read_146 : decode cX8_read 146 = .ok (.iaload, 1) := by decide +kernel
theorem dX8_read_147 : decode cX8_read 147 = .ok (.iconst 1, 1) := by decide +kernel
theorem dX8_read_148 : decode cX8_read 148 = .ok (.isub, 1) := by decide +kernel
theorem dX8_read_149 : decode cX8_read 149 = .ok (.iastore, 1) := by decide +kernel
theorem dX8_read_150 : decode cX8_read 150 = .ok (.iconst 0, 1) := by decide +kernel
theorem dX8_read_151 : decode cX8_read 151 = .ok (.istore 6, 2) := by decide +kernel
theorem dX8_read_153 : decode cX8_read 153 = .ok (.iload 6, 2) := by decide +kernel
theorem dX8_read_155 : decode cX8_read 155 = .ok (.aload_n 0, 1) := by decide +kernel
theorem dX8_read_156 : decode cX8_read 156 = .ok (.getfield 73, 3) := by decide +kernel
theorem dX8_read_159 : decode cX8_read 159 = .ok (.iload_n 1, 1) := by decide +kernel
theorem dX8_read_160 : decode cX8_read 160 = .ok (.iaload, 1) := by decide +kernel
theorem dX8_read_161 : decode cX8_read 161 = .ok (.if_icmp .ge 37, 3) := by decide +kernel
theorem dX8_read_164 : decode cX8_read 164 = .ok (.aload_n 0, 1) := by decide +kernel
theorem dX8_read_165 : decode cX8_read 165 = .ok (.getfield 76, 3) := by decide +kernel
theorem dX8_read_168 : decode cX8_read 168 = .ok (.sipush 12800, 3) := by decide +kernel
theorem dX8_read_171 : decode cX8_read 171 = .ok (.iload_n 1, 1) := by decide +kernel
theorem dX8_read_172 : decode cX8_read 172 = .ok (.imul, 1) := by decide +kernel
theorem dX8_read_173 : decode cX8_read 173 = .ok (.iload 6, 2) := by decide +kernel
theorem dX8_read_175 : decode cX8_read 175 = .ok (.iadd, 1) := by decide +kernel
theorem dX8_read_176 : decode cX8_read 176 = .ok (.aload_n 0, 1) := by decide +kernel
theorem dX8_read_177 : decode cX8_read 177 = .ok (.getfield 76, 3) := by decide +kernel
theorem dX8_read_180 : decode cX8_read 180 = .ok (.sipush 12800, 3) := by decide +kernel
theorem dX8_read_183 : decode cX8_read 183 = .ok (.iload_n 1, 1) := by decide +kernel
theorem dX8_read_184 : decode cX8_read 184 = .ok (.imul, 1) := by decide +kernel
theorem dX8_read_185 : decode cX8_read 185 = .ok (.iload 6, 2) := by decide +kernel
theorem dX8_read_187 : decode cX8_read 187 = .ok (.iadd, 1) := by decide +kernel
theorem dX8_read_188 : decode cX8_read 188 = .ok (.iconst 1, 1) := by decide +kernel
theorem dX8_read_189 : decode cX8_read 189 = .ok (.iadd, 1) := by decide +kernel
theorem dX8_read_190 : decode cX8_read 190 = .ok (.iaload, 1) := by decide +kernel
theorem dX8_read_191 : decode cX8_read 191 = .ok (.iastore, 1) := by decide +kernel
theorem dX8_read_192 : decode cX8_read 192 = .ok (.iinc 6 1, 3) := by decide +kernel
theorem dX8_read_195 : decode cX8_read 195 = .ok (.goto (-42), 3) := by decide +kernel
theorem dX8_read_198 : decode cX8_read 198 = .ok (.aload_n 0, 1) := by decide +kernel
theorem dX8_read_199 : decode cX8_read 199 = .ok (.getfield 79, 3) := by decide +kernel
theorem dX8_read_202 : decode cX8_read 202 = .ok (.iload_n 1, 1) := by decide +kernel
theorem dX8_read_203 : decode cX8_read 203 = .ok (.dup2, 1) := by decide +kernel
theorem dX8_read_204 : decode cX8_read 204 = .ok (.iaload, 1) := by decide +kernel
theorem dX8_read_205 : decode cX8_read 205 = .ok (.iconst 1, 1) := by decide +kernel
theorem dX8_read_206 : decode cX8_read 206 = .ok (.iadd, 1) := by decide +kernel
theorem dX8_read_207 : decode cX8_read 207 = .ok (.iastore, 1) := by decide +kernel
theorem dX8_read_208 : decode cX8_read 208 = .ok (.aload_n 0, 1) := by decide +kernel
theorem dX8_read_209 : decode cX8_read 209 = .ok (.iload_n 1, 1) := by decide +kernel
theorem dX8_read_210 : decode cX8_read 210 = .ok (.aload_n 0, 1) := by decide +kernel
theorem dX8_read_211 : decode cX8_read 211 = .ok (.getfield 23, 3) := by decide +kernel
theorem dX8_read_214 : decode cX8_read 214 = .ok (.iload_n 1, 1) := by decide +kernel
theorem dX8_read_215 : decode cX8_read 215 = .ok (.iaload, 1) := by decide +kernel
theorem dX8_read_216 : decode cX8_read 216 = .ok (.iconst 2, 1) := by decide +kernel
theorem dX8_read_217 : decode cX8_read 217 = .ok (.if_icmp .ne 8, 3) := by decide +kernel
theorem dX8_read_220 : decode cX8_read 220 = .ok (.iload 5, 2) := by decide +kernel
theorem dX8_read_222 : decode cX8_read 222 = .ok (.goto 12, 3) := by decide +kernel
theorem dX8_read_225 : decode cX8_read 225 = .ok (.iload 4, 2) := by decide +kernel
theorem dX8_read_227 : decode cX8_read 227 = .ok (.iload 5, 2) := by decide +kernel
theorem dX8_read_229 : decode cX8_read 229 = .ok (.iadd, 1) := by decide +kernel
theorem dX8_read_230 : decode cX8_read 230 = .ok (.iconst 2, 1) := by decide +kernel
theorem dX8_read_231 : decode cX8_read 231 = .ok (.invokestatic 185, 3) := by decide +kernel
theorem dX8_read_234 : decode cX8_read 234 = .ok (.invokevirtual 192, 3) := by decide +kernel
theorem dX8_read_237 : decode cX8_read 237 = .ok (.ireturn, 1) := by decide +kernel
theorem dX8_room_0 : decode cX8_room 0 = .ok (.aload_n 0, 1) := by decide +kernel
theorem dX8_room_1 : decode cX8_room 1 = .ok (.aload_n 0, 1) := by decide +kernel
theorem dX8_room_2 : decode cX8_room 2 = .ok (.iload_n 1, 1) := by decide +kernel
theorem dX8_room_3 : decode cX8_room 3 = .ok (.invokevirtual 147, 3) := by decide +kernel
theorem dX8_room_6 : decode cX8_room 6 = .ok (.ifCond .eq 7, 3) := by decide +kernel
theorem dX8_room_9 : decode cX8_room 9 = .ok (.iconst 0, 1) := by decide +kernel
theorem dX8_room_10 : decode cX8_room 10 = .ok (.goto 4, 3) := by decide +kernel
theorem dX8_room_13 : decode cX8_room 13 = .ok (.iconst 1, 1) := by decide +kernel
theorem dX8_room_14 : decode cX8_room 14 = .ok (.invokevirtual 144, 3) := by decide +kernel
theorem dX8_room_17 : decode cX8_room 17 = .ok (.ifCond .eq 5, 3) := by decide +kernel
theorem dX8_room_20 : decode cX8_room 20 = .ok (.iconst 0, 1) := by decide +kernel
theorem dX8_room_21 : decode cX8_room 21 = .ok (.ireturn, 1) := by decide +kernel
theorem dX8_room_22 : decode cX8_room 22 = .ok (.aload_n 0, 1) := by decide +kernel
theorem dX8_room_23 : decode cX8_room 23 = .ok (.getfield 17, 3) := by decide +kernel
theorem dX8_room_26 : decode cX8_room 26 = .ok (.iload_n 1, 1) := by decide +kernel
theorem dX8_room_27 : decode cX8_room 27 = .ok (.baload, 1) := by decide +kernel
theorem dX8_room_28 : decode cX8_room 28 = .ok (.ifCond .eq 15, 3) := by decide +kernel
theorem dX8_room_31 : decode cX8_room 31 = .ok (.aload_n 0, 1) := by decide +kernel
theorem dX8_room_32 : decode cX8_room 32 = .ok (.getfield 32, 3) := by decide +kernel
theorem dX8_room_35 : decode cX8_room 35 = .ok (.iload_n 1, 1) := by decide +kernel
theorem dX8_room_36 : decode cX8_room 36 = .ok (.iaload, 1) := by decide +kernel
theorem dX8_room_37 : decode cX8_room 37 = .ok (.iconst 2, 1) := by decide +kernel
theorem dX8_room_38 : decode cX8_room 38 = .ok (.if_icmp .le 5, 3) := by decide +kernel
theorem dX8_room_41 : decode cX8_room 41 = .ok (.iconst 0, 1) := by decide +kernel
theorem dX8_room_42 : decode cX8_room 42 = .ok (.ireturn, 1) := by decide +kernel
theorem dX8_room_43 : decode cX8_room 43 = .ok (.aload_n 0, 1) := by decide +kernel
theorem dX8_room_44 : decode cX8_room 44 = .ok (.getfield 17, 3) := by decide +kernel
theorem dX8_room_47 : decode cX8_room 47 = .ok (.iload_n 1, 1) := by decide +kernel
theorem dX8_room_48 : decode cX8_room 48 = .ok (.baload, 1) := by decide +kernel
theorem dX8_room_49 : decode cX8_room 49 = .ok (.ifCond .eq 11, 3) := by decide +kernel
theorem dX8_room_52 : decode cX8_room 52 = .ok (.aload_n 0, 1) := by decide +kernel
theorem dX8_room_53 : decode cX8_room 53 = .ok (.iload_n 1, 1) := by decide +kernel
theorem dX8_room_54 : decode cX8_room 54 = .ok (.invokevirtual 175, 3) := by decide +kernel
theorem dX8_room_57 : decode cX8_room 57 = .ok (.goto 9, 3) := by decide +kernel
theorem dX8_room_60 : decode cX8_room 60 = .ok (.aload_n 0, 1) := by decide +kernel
theorem dX8_room_61 : decode cX8_room 61 = .ok (.getfield 73, 3) := by decide +kernel
theorem dX8_room_64 : decode cX8_room 64 = .ok (.iload_n 1, 1) := by decide +kernel
theorem dX8_room_65 : decode cX8_room 65 = .ok (.iaload, 1) := by decide +kernel
theorem dX8_room_66 : decode cX8_room 66 = .ok (.istore_n 2, 1) := by decide +kernel
theorem dX8_room_67 : decode cX8_room 67 = .ok (.iload_n 2, 1) := by decide +kernel
theorem dX8_room_68 : decode cX8_room 68 = .ok (.ifCond .ge 7, 3) := by decide +kernel
theorem dX8_room_71 : decode cX8_room 71 = .ok (.iconst 0, 1) := by decide +kernel
theorem dX8_room_72 : decode cX8_room 72 = .ok (.goto 4, 3) := by decide +kernel
theorem dX8_room_75 : decode cX8_room 75 = .ok (.iload_n 2, 1) := by decide +kernel
theorem dX8_room_76 : decode cX8_room 76 = .ok (.istore_n 2, 1) := by decide +kernel
theorem dX8_room_77 : decode cX8_room 77 = .ok (.iload_n 2, 1) := by decide +kernel
theorem dX8_room_78 : decode cX8_room 78 = .ok (.aload_n 0, 1) := by decide +kernel
theorem dX8_room_79 : decode cX8_room 79 = .ok (.getfield 23, 3) := by decide +kernel
theorem dX8_room_82 : decode cX8_room 82 = .ok (.iload_n 1, 1) := by decide +kernel
theorem dX8_room_83 : decode cX8_room 83 = .ok (.iaload, 1) := by decide +kernel
theorem dX8_room_84 : decode cX8_room 84 = .ok (.imul, 1) := by decide +kernel
theorem dX8_room_85 : decode cX8_room 85 = .ok (.aload_n 0, 1) := by decide +kernel
theorem dX8_room_86 : decode cX8_room 86 = .ok (.getfield 48, 3) := by decide +kernel
theorem dX8_room_89 : decode cX8_room 89 = .ok (.iload_n 1, 1) := by decide +kernel
theorem dX8_room_90 : decode cX8_room 90 = .ok (.baload, 1) := by decide +kernel
theorem dX8_room_91 : decode cX8_room 91 = .ok (.ifCond .eq 11, 3) := by decide +kernel
theorem dX8_room_94 : decode cX8_room 94 = .ok (.iload_n 2, 1) := by decide +kernel
theorem dX8_room_95 : decode cX8_room 95 = .ok (.ifCond .le 7, 3) := by decide +kernel
theorem dX8_room_98 : decode cX8_room 98 = .ok (.iconst 1, 1) := by decide +kernel
theorem dX8_room_99 : decode cX8_room 99 = .ok (.goto 4, 3) := by decide +kernel
theorem dX8_room_102 : decode cX8_room 102 = .ok (.iconst 0, 1) := by decide +kernel
theorem dX8_room_103 : decode cX8_room 103 = .ok (.isub, 1) := by decide +kernel
theorem dX8_room_104 : decode cX8_room 104 = .ok (.ireturn, 1) := by decide +kernel
theorem dX8_ahead_0 : decode cX8_ahead 0 = .ok (.aload_n 0, 1) := by decide +kernel
theorem dX8_ahead_1 : decode cX8_ahead 1 = .ok (.aload_n 0, 1) := by decide +kernel
theorem dX8_ahead_2 : decode cX8_ahead 2 = .ok (.iload_n 1, 1) := by decide +kernel
theorem dX8_ahead_3 : decode cX8_ahead 3 = .ok (.invokevirtual 147, 3) := by decide +kernel
theorem dX8_ahead_6 : decode cX8_ahead 6 = .ok (.ifCond .eq 16, 3) := by decide +kernel
theorem dX8_ahead_9 : decode cX8_ahead 9 = .ok (.aload_n 0, 1) := by decide +kernel
theorem dX8_ahead_10 : decode cX8_ahead 10 = .ok (.getfield 17, 3) := by decide +kernel
theorem dX8_ahead_13 : decode cX8_ahead 13 = .ok (.iload_n 1, 1) := by decide +kernel
theorem dX8_ahead_14 : decode cX8_ahead 14 = .ok (.baload, 1) := by decide +kernel
theorem dX8_ahead_15 : decode cX8_ahead 15 = .ok (.ifCond .eq 7, 3) := by decide +kernel
theorem dX8_ahead_18 : decode cX8_ahead 18 = .ok (.iconst 0, 1) := by decide +kernel
theorem dX8_ahead_19 : decode cX8_ahead 19 = .ok (.goto 4, 3) := by decide +kernel
theorem dX8_ahead_22 : decode cX8_ahead 22 = .ok (.iconst 1, 1) := by decide +kernel
theorem dX8_ahead_23 : decode cX8_ahead 23 = .ok (.invokevirtual 144, 3) := by decide +kernel
theorem dX8_ahead_26 : decode cX8_ahead 26 = .ok (.ifCond .eq 5, 3) := by decide +kernel
theorem dX8_ahead_29 : decode cX8_ahead 29 = .ok (.iconst 0, 1) := by decide +kernel
theorem dX8_ahead_30 : decode cX8_ahead 30 = .ok (.ireturn, 1) := by decide +kernel
theorem dX8_ahead_31 : decode cX8_ahead 31 = .ok (.iconst 0, 1) := by decide +kernel
theorem dX8_ahead_32 : decode cX8_ahead 32 = .ok (.istore_n 2, 1) := by decide +kernel
theorem dX8_ahead_33 : decode cX8_ahead 33 = .ok (.aload_n 0, 1) := by decide +kernel
theorem dX8_ahead_34 : decode cX8_ahead 34 = .ok (.iload_n 1, 1) := by decide +kernel
theorem dX8_ahead_35 : decode cX8_ahead 35 = .ok (.aload_n 0, 1) := by decide +kernel
theorem dX8_ahead_36 : decode cX8_ahead 36 = .ok (.getfield 54, 3) := by decide +kernel
theorem dX8_ahead_39 : decode cX8_ahead 39 = .ok (.iload_n 1, 1) := by decide +kernel
theorem dX8_ahead_40 : decode cX8_ahead 40 = .ok (.iaload, 1) := by decide +kernel
theorem dX8_ahead_41 : decode cX8_ahead 41 = .ok (.bipush 24, 2) := by decide +kernel
theorem dX8_ahead_43 : decode cX8_ahead 43 = .ok (.iload_n 2, 1) := by decide +kernel
theorem dX8_ahead_44 : decode cX8_ahead 44 = .ok (.imul, 1) := by decide +kernel
theorem dX8_ahead_45 : decode cX8_ahead 45 = .ok (.iadd, 1) := by decide +kernel
theorem dX8_ahead_46 : decode cX8_ahead 46 = .ok (.bipush 24, 2) := by decide +kernel
theorem dX8_ahead_48 : decode cX8_ahead 48 = .ok (.iadd, 1) := by decide +kernel
theorem dX8_ahead_49 : decode cX8_ahead 49 = .ok (.iconst 1, 1) := by decide +kernel
theorem dX8_ahead_50 : decode cX8_ahead 50 = .ok (.isub, 1) := by decide +kernel
theorem dX8_ahead_51 : decode cX8_ahead 51 = .ok (.aload_n 0, 1) := by decide +kernel
theorem dX8_ahead_52 : decode cX8_ahead 52 = .ok (.getfield 20, 3) := by decide +kernel
theorem dX8_ahead_55 : decode cX8_ahead 55 = .ok (.iload_n 1, 1) := by decide +kernel
theorem dX8_ahead_56 : decode cX8_ahead 56 = .ok (.iaload, 1) := by decide +kernel
theorem dX8_ahead_57 : decode cX8_ahead 57 = .ok (.ldc 139, 2) := by decide +kernel
theorem dX8_ahead_59 : decode cX8_ahead 59 = .ok (.invokevirtual 195, 3) := by decide +kernel
theorem dX8_ahead_62 : decode cX8_ahead 62 = .ok (.ifCond .eq 9, 3) := by decide +kernel
theorem dX8_ahead_65 : decode cX8_ahead 65 = .ok (.iinc 2 1, 3) := by decide +kernel
theorem dX8_ahead_68 : decode cX8_ahead 68 = .ok (.goto (-35), 3) := by decide +kernel
theorem dX8_ahead_71 : decode cX8_ahead 71 = .ok (.iload_n 2, 1) := by decide +kernel
theorem dX8_ahead_72 : decode cX8_ahead 72 = .ok (.ireturn, 1) := by decide +kernel
theorem dX8_giveNothing_0 : decode cX8_giveNothing 0 = .ok (.iconst 0, 1) := by decide +kernel
theorem dX8_giveNothing_1 : decode cX8_giveNothing 1 = .ok (.istore_n 1, 1) := by decide +kernel
theorem dX8_giveNothing_2 : decode cX8_giveNothing 2 = .ok (.iload_n 1, 1) := by decide +kernel
theorem dX8_giveNothing_3 : decode cX8_giveNothing 3 = .ok (.bipush 24, 2) := by decide +kernel
theorem dX8_giveNothing_5 : decode cX8_giveNothing 5 = .ok (.if_icmp .ge 23, 3) := by decide +kernel
theorem dX8_giveNothing_8 : decode cX8_giveNothing 8 = .ok (.aload_n 0, 1) := by decide +kernel
theorem dX8_giveNothing_9 : decode cX8_giveNothing 9 = .ok (.getfield 117, 3) := by decide +kernel
theorem dX8_giveNothing_12 : decode cX8_giveNothing 12 = .ok (.iload_n 1, 1) := by decide +kernel
theorem dX8_giveNothing_13 : decode cX8_giveNothing 13 = .ok (.iconst 0, 1) := by decide +kernel
theorem dX8_giveNothing_14 : decode cX8_giveNothing 14 = .ok (.iastore, 1) := by decide +kernel
theorem dX8_giveNothing_15 : decode cX8_giveNothing 15 = .ok (.aload_n 0, 1) := by decide +kernel
theorem dX8_giveNothing_16 : decode cX8_giveNothing 16 = .ok (.getfield 120, 3) := by decide +kernel
theorem dX8_giveNothing_19 : decode cX8_giveNothing 19 = .ok (.iload_n 1, 1) := by decide +kernel
theorem dX8_giveNothing_20 : decode cX8_giveNothing 20 = .ok (.iconst 0, 1) := by decide +kernel
theorem dX8_giveNothing_21 : decode cX8_giveNothing 21 = .ok (.iastore, 1) := by decide +kernel
theorem dX8_giveNothing_22 : decode cX8_giveNothing 22 = .ok (.iinc 1 1, 3) := by decide +kernel
theorem dX8_giveNothing_25 : decode cX8_giveNothing 25 = .ok (.goto (-23), 3) := by decide +kernel
theorem dX8_giveNothing_28 : decode cX8_giveNothing 28 = .ok (.return_, 1) := by decide +kernel
theorem dX8_giveOutputs_0 : decode cX8_giveOutputs 0 = .ok (.iconst 0, 1) := by decide +kernel
theorem dX8_giveOutputs_1 : decode cX8_giveOutputs 1 = .ok (.istore_n 2, 1) := by decide +kernel
theorem dX8_giveOutputs_2 : decode cX8_giveOutputs 2 = .ok (.iload_n 2, 1) := by decide +kernel
theorem dX8_giveOutputs_3 : decode cX8_giveOutputs 3 = .ok (.bipush 24, 2) := by decide +kernel
theorem dX8_giveOutputs_5 : decode cX8_giveOutputs 5 = .ok (.if_icmp .ge 65, 3) := by decide +kernel
theorem dX8_giveOutputs_8 : decode cX8_giveOutputs 8 = .ok (.aload_n 0, 1) := by decide +kernel
theorem dX8_giveOutputs_9 : decode cX8_giveOutputs 9 = .ok (.getfield 117, 3) := by decide +kernel
theorem dX8_giveOutputs_12 : decode cX8_giveOutputs 12 = .ok (.iload_n 2, 1) := by decide +kernel
theorem dX8_giveOutputs_13 : decode cX8_giveOutputs 13 = .ok (.aload_n 0, 1) := by decide +kernel
theorem dX8_giveOutputs_14 : decode cX8_giveOutputs 14 = .ok (.iload_n 1, 1) := by decide +kernel
theorem dX8_giveOutputs_15 : decode cX8_giveOutputs 15 = .ok (.aload_n 0, 1) := by decide +kernel
theorem dX8_giveOutputs_16 : decode cX8_giveOutputs 16 = .ok (.getfield 54, 3) := by decide +kernel
theorem dX8_giveOutputs_19 : decode cX8_giveOutputs 19 = .ok (.iload_n 1, 1) := by decide +kernel
theorem dX8_giveOutputs_20 : decode cX8_giveOutputs 20 = .ok (.iaload, 1) := by decide +kernel
theorem dX8_giveOutputs_21 : decode cX8_giveOutputs 21 = .ok (.iload_n 2, 1) := by decide +kernel
theorem dX8_giveOutputs_22 : decode cX8_giveOutputs 22 = .ok (.iadd, 1) := by decide +kernel
theorem dX8_giveOutputs_23 : decode cX8_giveOutputs 23 = .ok (.aload_n 0, 1) := by decide +kernel
theorem dX8_giveOutputs_24 : decode cX8_giveOutputs 24 = .ok (.getfield 20, 3) := by decide +kernel
theorem dX8_giveOutputs_27 : decode cX8_giveOutputs 27 = .ok (.iload_n 1, 1) := by decide +kernel
theorem dX8_giveOutputs_28 : decode cX8_giveOutputs 28 = .ok (.iaload, 1) := by decide +kernel
theorem dX8_giveOutputs_29 : decode cX8_giveOutputs 29 = .ok (.ldc 139, 2) := by decide +kernel
theorem dX8_giveOutputs_31 : decode cX8_giveOutputs 31 = .ok (.iconst 0, 1) := by decide +kernel
theorem dX8_giveOutputs_32 : decode cX8_giveOutputs 32 = .ok (.invokevirtual 188, 3) := by decide +kernel
theorem dX8_giveOutputs_35 : decode cX8_giveOutputs 35 = .ok (.iastore, 1) := by decide +kernel
theorem dX8_giveOutputs_36 : decode cX8_giveOutputs 36 = .ok (.aload_n 0, 1) := by decide +kernel
theorem dX8_giveOutputs_37 : decode cX8_giveOutputs 37 = .ok (.getfield 120, 3) := by decide +kernel
theorem dX8_giveOutputs_40 : decode cX8_giveOutputs 40 = .ok (.iload_n 2, 1) := by decide +kernel
theorem dX8_giveOutputs_41 : decode cX8_giveOutputs 41 = .ok (.aload_n 0, 1) := by decide +kernel
theorem dX8_giveOutputs_42 : decode cX8_giveOutputs 42 = .ok (.iload_n 1, 1) := by decide +kernel
theorem dX8_giveOutputs_43 : decode cX8_giveOutputs 43 = .ok (.aload_n 0, 1) := by decide +kernel
theorem dX8_giveOutputs_44 : decode cX8_giveOutputs 44 = .ok (.getfield 54, 3) := by decide +kernel
theorem dX8_giveOutputs_47 : decode cX8_giveOutputs 47 = .ok (.iload_n 1, 1) := by decide +kernel
theorem dX8_giveOutputs_48 : decode cX8_giveOutputs 48 = .ok (.iaload, 1) := by decide +kernel
theorem dX8_giveOutputs_49 : decode cX8_giveOutputs 49 = .ok (.iload_n 2, 1) := by decide +kernel
theorem dX8_giveOutputs_50 : decode cX8_giveOutputs 50 = .ok (.iadd, 1) := by decide +kernel
theorem dX8_giveOutputs_51 : decode cX8_giveOutputs 51 = .ok (.aload_n 0, 1) := by decide +kernel
theorem dX8_giveOutputs_52 : decode cX8_giveOutputs 52 = .ok (.getfield 20, 3) := by decide +kernel
theorem dX8_giveOutputs_55 : decode cX8_giveOutputs 55 = .ok (.iload_n 1, 1) := by decide +kernel
theorem dX8_giveOutputs_56 : decode cX8_giveOutputs 56 = .ok (.iaload, 1) := by decide +kernel
theorem dX8_giveOutputs_57 : decode cX8_giveOutputs 57 = .ok (.ldc 139, 2) := by decide +kernel
theorem dX8_giveOutputs_59 : decode cX8_giveOutputs 59 = .ok (.iconst 1, 1) := by decide +kernel
theorem dX8_giveOutputs_60 : decode cX8_giveOutputs 60 = .ok (.invokevirtual 188, 3) := by decide +kernel
theorem dX8_giveOutputs_63 : decode cX8_giveOutputs 63 = .ok (.iastore, 1) := by decide +kernel
theorem dX8_giveOutputs_64 : decode cX8_giveOutputs 64 = .ok (.iinc 2 1, 3) := by decide +kernel
theorem dX8_giveOutputs_67 : decode cX8_giveOutputs 67 = .ok (.goto (-65), 3) := by decide +kernel
theorem dX8_giveOutputs_70 : decode cX8_giveOutputs 70 = .ok (.aload_n 0, 1) := by decide +kernel
theorem dX8_giveOutputs_71 : decode cX8_giveOutputs 71 = .ok (.getfield 57, 3) := by decide +kernel
theorem dX8_giveOutputs_74 : decode cX8_giveOutputs 74 = .ok (.iload_n 1, 1) := by decide +kernel
theorem dX8_giveOutputs_75 : decode cX8_giveOutputs 75 = .ok (.aload_n 0, 1) := by decide +kernel
theorem dX8_giveOutputs_76 : decode cX8_giveOutputs 76 = .ok (.getfield 117, 3) := by decide +kernel
theorem dX8_giveOutputs_79 : decode cX8_giveOutputs 79 = .ok (.bipush 23, 2) := by decide +kernel
theorem dX8_giveOutputs_81 : decode cX8_giveOutputs 81 = .ok (.iaload, 1) := by decide +kernel
theorem dX8_giveOutputs_82 : decode cX8_giveOutputs 82 = .ok (.iastore, 1) := by decide +kernel
theorem dX8_giveOutputs_83 : decode cX8_giveOutputs 83 = .ok (.aload_n 0, 1) := by decide +kernel
theorem dX8_giveOutputs_84 : decode cX8_giveOutputs 84 = .ok (.getfield 60, 3) := by decide +kernel
theorem dX8_giveOutputs_87 : decode cX8_giveOutputs 87 = .ok (.iload_n 1, 1) := by decide +kernel
theorem dX8_giveOutputs_88 : decode cX8_giveOutputs 88 = .ok (.aload_n 0, 1) := by decide +kernel
theorem dX8_giveOutputs_89 : decode cX8_giveOutputs 89 = .ok (.getfield 120, 3) := by decide +kernel
theorem dX8_giveOutputs_92 : decode cX8_giveOutputs 92 = .ok (.bipush 23, 2) := by decide +kernel
theorem dX8_giveOutputs_94 : decode cX8_giveOutputs 94 = .ok (.iaload, 1) := by decide +kernel
theorem dX8_giveOutputs_95 : decode cX8_giveOutputs 95 = .ok (.iastore, 1) := by decide +kernel
theorem dX8_giveOutputs_96 : decode cX8_giveOutputs 96 = .ok (.aload_n 0, 1) := by decide +kernel
theorem dX8_giveOutputs_97 : decode cX8_giveOutputs 97 = .ok (.getfield 54, 3) := by decide +kernel
theorem dX8_giveOutputs_100 : decode cX8_giveOutputs 100 = .ok (.iload_n 1, 1) := by decide +kernel
theorem dX8_giveOutputs_101 : decode cX8_giveOutputs 101 = .ok (.aload_n 0, 1) := by decide +kernel
theorem dX8_giveOutputs_102 : decode cX8_giveOutputs 102 = .ok (.getfield 54, 3) := by decide +kernel
theorem dX8_giveOutputs_105 : decode cX8_giveOutputs 105 = .ok (.iload_n 1, 1) := by decide +kernel
theorem dX8_giveOutputs_106 : decode cX8_giveOutputs 106 = .ok (.iaload, 1) := by decide +kernel
theorem dX8_giveOutputs_107 : decode cX8_giveOutputs 107 = .ok (.bipush 24, 2) := by decide +kernel
theorem dX8_giveOutputs_109 : decode cX8_giveOutputs 109 = .ok (.iadd, 1) := by decide +kernel
theorem dX8_giveOutputs_110 : decode cX8_giveOutputs 110 = .ok (.iastore, 1) := by decide +kernel
theorem dX8_giveOutputs_111 : decode cX8_giveOutputs 111 = .ok (.return_, 1) := by decide +kernel
theorem dX8_fade_0 : decode cX8_fade 0 = .ok (.iconst 0, 1) := by decide +kernel
theorem dX8_fade_1 : decode cX8_fade 1 = .ok (.istore_n 2, 1) := by decide +kernel
theorem dX8_fade_2 : decode cX8_fade 2 = .ok (.iload_n 2, 1) := by decide +kernel
theorem dX8_fade_3 : decode cX8_fade 3 = .ok (.bipush 24, 2) := by decide +kernel
theorem dX8_fade_5 : decode cX8_fade 5 = .ok (.if_icmp .ge 62, 3) := by decide +kernel
theorem dX8_fade_8 : decode cX8_fade 8 = .ok (.iload_n 2, 1) := by decide +kernel
theorem dX8_fade_9 : decode cX8_fade 9 = .ok (.bipush 15, 2) := by decide +kernel
theorem dX8_fade_11 : decode cX8_fade 11 = .ok (.if_icmp .ge 10, 3) := by decide +kernel
theorem dX8_fade_14 : decode cX8_fade 14 = .ok (.bipush 15, 2) := by decide +kernel
theorem dX8_fade_16 : decode cX8_fade 16 = .ok (.iload_n 2, 1) := by decide +kernel
theorem dX8_fade_17 : decode cX8_fade 17 = .ok (.isub, 1) := by decide +kernel
theorem dX8_fade_18 : decode cX8_fade 18 = .ok (.goto 4, 3) := by decide +kernel
theorem dX8_fade_21 : decode cX8_fade 21 = .ok (.iconst 0, 1) := by decide +kernel
theorem dX8_fade_22 : decode cX8_fade 22 = .ok (.istore_n 3, 1) := by decide +kernel
theorem dX8_fade_23 : decode cX8_fade 23 = .ok (.aload_n 0, 1) := by decide +kernel
theorem dX8_fade_24 : decode cX8_fade 24 = .ok (.getfield 117, 3) := by decide +kernel
theorem dX8_fade_27 : decode cX8_fade 27 = .ok (.iload_n 2, 1) := by decide +kernel
theorem dX8_fade_28 : decode cX8_fade 28 = .ok (.aload_n 0, 1) := by decide +kernel
theorem dX8_fade_29 : decode cX8_fade 29 = .ok (.getfield 57, 3) := by decide +kernel
theorem dX8_fade_32 : decode cX8_fade 32 = .ok (.iload_n 1, 1) := by decide +kernel
theorem dX8_fade_33 : decode cX8_fade 33 = .ok (.iaload, 1) := by decide +kernel
theorem dX8_fade_34 : decode cX8_fade 34 = .ok (.iload_n 3, 1) := by decide +kernel
theorem dX8_fade_35 : decode cX8_fade 35 = .ok (.imul, 1) := by decide +kernel
theorem dX8_fade_36 : decode cX8_fade 36 = .ok (.bipush 16, 2) := by decide +kernel
theorem dX8_fade_38 : decode cX8_fade 38 = .ok (.invokestatic 185, 3) := by decide +kernel
theorem dX8_fade_41 : decode cX8_fade 41 = .ok (.iastore, 1) := by decide +kernel
theorem dX8_fade_42 : decode cX8_fade 42 = .ok (.aload_n 0, 1) := by decide +kernel
theorem dX8_fade_43 : decode cX8_fade 43 = .ok (.getfield 120, 3) := by decide +kernel
theorem dX8_fade_46 : decode cX8_fade 46 = .ok (.iload_n 2, 1) := by decide +kernel
theorem dX8_fade_47 : decode cX8_fade 47 = .ok (.aload_n 0, 1) := by decide +kernel
theorem dX8_fade_48 : decode cX8_fade 48 = .ok (.getfield 60, 3) := by decide +kernel
theorem dX8_fade_51 : decode cX8_fade 51 = .ok (.iload_n 1, 1) := by decide +kernel
theorem dX8_fade_52 : decode cX8_fade 52 = .ok (.iaload, 1) := by decide +kernel
theorem dX8_fade_53 : decode cX8_fade 53 = .ok (.iload_n 3, 1) := by decide +kernel
theorem dX8_fade_54 : decode cX8_fade 54 = .ok (.imul, 1) := by decide +kernel
theorem dX8_fade_55 : decode cX8_fade 55 = .ok (.bipush 16, 2) := by decide +kernel
theorem dX8_fade_57 : decode cX8_fade 57 = .ok (.invokestatic 185, 3) := by decide +kernel
theorem dX8_fade_60 : decode cX8_fade 60 = .ok (.iastore, 1) := by decide +kernel
theorem dX8_fade_61 : decode cX8_fade 61 = .ok (.iinc 2 1, 3) := by decide +kernel
theorem dX8_fade_64 : decode cX8_fade 64 = .ok (.goto (-62), 3) := by decide +kernel
theorem dX8_fade_67 : decode cX8_fade 67 = .ok (.aload_n 0, 1) := by decide +kernel
theorem dX8_fade_68 : decode cX8_fade 68 = .ok (.getfield 57, 3) := by decide +kernel
theorem dX8_fade_71 : decode cX8_fade 71 = .ok (.iload_n 1, 1) := by decide +kernel
theorem dX8_fade_72 : decode cX8_fade 72 = .ok (.iconst 0, 1) := by decide +kernel
theorem dX8_fade_73 : decode cX8_fade 73 = .ok (.iastore, 1) := by decide +kernel
theorem dX8_fade_74 : decode cX8_fade 74 = .ok (.aload_n 0, 1) := by decide +kernel
theorem dX8_fade_75 : decode cX8_fade 75 = .ok (.getfield 60, 3) := by decide +kernel
theorem dX8_fade_78 : decode cX8_fade 78 = .ok (.iload_n 1, 1) := by decide +kernel
theorem dX8_fade_79 : decode cX8_fade 79 = .ok (.iconst 0, 1) := by decide +kernel
theorem dX8_fade_80 : decode cX8_fade 80 = .ok (.iastore, 1) := by decide +kernel
theorem dX8_fade_81 : decode cX8_fade 81 = .ok (.aload_n 0, 1) := by decide +kernel
theorem dX8_fade_82 : decode cX8_fade 82 = .ok (.getfield 35, 3) := by decide +kernel
theorem dX8_fade_85 : decode cX8_fade 85 = .ok (.iload_n 1, 1) := by decide +kernel
theorem dX8_fade_86 : decode cX8_fade 86 = .ok (.dup2, 1) := by decide +kernel
theorem dX8_fade_87 : decode cX8_fade 87 = .ok (.iaload, 1) := by decide +kernel
theorem dX8_fade_88 : decode cX8_fade 88 = .ok (.iconst 1, 1) := by decide +kernel
theorem dX8_fade_89 : decode cX8_fade 89 = .ok (.iadd, 1) := by decide +kernel
theorem dX8_fade_90 : decode cX8_fade 90 = .ok (.iastore, 1) := by decide +kernel
theorem dX8_fade_91 : decode cX8_fade 91 = .ok (.return_, 1) := by decide +kernel
theorem dX8_give_0 : decode cX8_give 0 = .ok (.aload_n 0, 1) := by decide +kernel
theorem dX8_give_1 : decode cX8_give 1 = .ok (.invokevirtual 199, 3) := by decide +kernel
theorem dX8_give_4 : decode cX8_give 4 = .ok (.aload_n 0, 1) := by decide +kernel
theorem dX8_give_5 : decode cX8_give 5 = .ok (.getfield 32, 3) := by decide +kernel
theorem dX8_give_8 : decode cX8_give 8 = .ok (.iload_n 1, 1) := by decide +kernel
theorem dX8_give_9 : decode cX8_give 9 = .ok (.iaload, 1) := by decide +kernel
theorem dX8_give_10 : decode cX8_give 10 = .ok (.iconst 3, 1) := by decide +kernel
theorem dX8_give_11 : decode cX8_give 11 = .ok (.if_icmp .ne 55, 3) := by decide +kernel
theorem dX8_give_14 : decode cX8_give 14 = .ok (.aload_n 0, 1) := by decide +kernel
theorem dX8_give_15 : decode cX8_give 15 = .ok (.iload_n 1, 1) := by decide +kernel
theorem dX8_give_16 : decode cX8_give 16 = .ok (.invokevirtual 202, 3) := by decide +kernel
theorem dX8_give_19 : decode cX8_give 19 = .ok (.aload_n 0, 1) := by decide +kernel
theorem dX8_give_20 : decode cX8_give 20 = .ok (.getfield 20, 3) := by decide +kernel
theorem dX8_give_23 : decode cX8_give 23 = .ok (.iload_n 1, 1) := by decide +kernel
theorem dX8_give_24 : decode cX8_give 24 = .ok (.iaload, 1) := by decide +kernel
theorem dX8_give_25 : decode cX8_give 25 = .ok (.ldc 139, 2) := by decide +kernel
theorem dX8_give_27 : decode cX8_give 27 = .ok (.if_icmp .ne 7, 3) := by decide +kernel
theorem dX8_give_30 : decode cX8_give 30 = .ok (.iconst 0, 1) := by decide +kernel
theorem dX8_give_31 : decode cX8_give 31 = .ok (.goto 5, 3) := by decide +kernel
theorem dX8_give_34 : decode cX8_give 34 = .ok (.bipush 7, 2) := by decide +kernel
theorem dX8_give_36 : decode cX8_give 36 = .ok (.istore_n 2, 1) := by decide +kernel
theorem dX8_give_37 : decode cX8_give 37 = .ok (.aload_n 0, 1) := by decide +kernel
theorem dX8_give_38 : decode cX8_give 38 = .ok (.getfield 32, 3) := by decide +kernel
theorem dX8_give_41 : decode cX8_give 41 = .ok (.iload_n 1, 1) := by decide +kernel
theorem dX8_give_42 : decode cX8_give 42 = .ok (.aload_n 0, 1) := by decide +kernel
theorem dX8_give_43 : decode cX8_give 43 = .ok (.iload_n 1, 1) := by decide +kernel
theorem dX8_give_44 : decode cX8_give 44 = .ok (.invokevirtual 167, 3) := by decide +kernel
theorem dX8_give_47 : decode cX8_give 47 = .ok (.iload_n 2, 1) := by decide +kernel
theorem dX8_give_48 : decode cX8_give 48 = .ok (.isub, 1) := by decide +kernel
theorem dX8_give_49 : decode cX8_give 49 = .ok (.aload_n 0, 1) := by decide +kernel
theorem dX8_give_50 : decode cX8_give 50 = .ok (.getfield 38, 3) := by decide +kernel
theorem dX8_give_53 : decode cX8_give 53 = .ok (.iload_n 1, 1) := by decide +kernel
theorem dX8_give_54 : decode cX8_give 54 = .ok (.iaload, 1) := by decide +kernel
theorem dX8_give_55 : decode cX8_give 55 = .ok (.if_icmp .lt 7, 3) := by decide +kernel
theorem dX8_give_58 : decode cX8_give 58 = .ok (.iconst 4, 1) := by decide +kernel
theorem dX8_give_59 : decode cX8_give 59 = .ok (.goto 4, 3) := by decide +kernel
theorem dX8_give_62 : decode cX8_give 62 = .ok (.iconst 3, 1) := by decide +kernel
theorem dX8_give_63 : decode cX8_give 63 = .ok (.iastore, 1) := by decide +kernel
theorem dX8_give_64 : decode cX8_give 64 = .ok (.iconst 1, 1) := by decide +kernel
theorem dX8_give_65 : decode cX8_give 65 = .ok (.ireturn, 1) := by decide +kernel
theorem dX8_give_66 : decode cX8_give 66 = .ok (.aload_n 0, 1) := by decide +kernel
theorem dX8_give_67 : decode cX8_give 67 = .ok (.getfield 32, 3) := by decide +kernel
theorem dX8_give_70 : decode cX8_give 70 = .ok (.iload_n 1, 1) := by decide +kernel
theorem dX8_give_71 : decode cX8_give 71 = .ok (.iaload, 1) := by decide +kernel
theorem dX8_give_72 : decode cX8_give 72 = .ok (.iconst 1, 1) := by decide +kernel
theorem dX8_give_73 : decode cX8_give 73 = .ok (.if_icmp .eq 5, 3) := by decide +kernel
theorem dX8_give_76 : decode cX8_give 76 = .ok (.iconst 0, 1) := by decide +kernel
theorem dX8_give_77 : decode cX8_give 77 = .ok (.ireturn, 1) := by decide +kernel
theorem dX8_give_78 : decode cX8_give 78 = .ok (.aload_n 0, 1) := by decide +kernel
theorem dX8_give_79 : decode cX8_give 79 = .ok (.iload_n 1, 1) := by decide +kernel
theorem dX8_give_80 : decode cX8_give 80 = .ok (.aload_n 0, 1) := by decide +kernel
theorem dX8_give_81 : decode cX8_give 81 = .ok (.getfield 54, 3) := by decide +kernel
theorem dX8_give_84 : decode cX8_give 84 = .ok (.iload_n 1, 1) := by decide +kernel
theorem dX8_give_85 : decode cX8_give 85 = .ok (.iaload, 1) := by decide +kernel
theorem dX8_give_86 : decode cX8_give 86 = .ok (.bipush 24, 2) := by decide +kernel
theorem dX8_give_88 : decode cX8_give 88 = .ok (.iadd, 1) := by decide +kernel
theorem dX8_give_89 : decode cX8_give 89 = .ok (.iconst 1, 1) := by decide +kernel
theorem dX8_give_90 : decode cX8_give 90 = .ok (.isub, 1) := by decide +kernel
theorem dX8_give_91 : decode cX8_give 91 = .ok (.aload_n 0, 1) := by decide +kernel
theorem dX8_give_92 : decode cX8_give 92 = .ok (.getfield 20, 3) := by decide +kernel
theorem dX8_give_95 : decode cX8_give 95 = .ok (.iload_n 1, 1) := by decide +kernel
theorem dX8_give_96 : decode cX8_give 96 = .ok (.iaload, 1) := by decide +kernel
theorem dX8_give_97 : decode cX8_give 97 = .ok (.ldc 139, 2) := by decide +kernel
theorem dX8_give_99 : decode cX8_give 99 = .ok (.invokevirtual 195, 3) := by decide +kernel
theorem dX8_give_102 : decode cX8_give 102 = .ok (.istore_n 2, 1) := by decide +kernel
theorem dX8_give_103 : decode cX8_give 103 = .ok (.iload_n 2, 1) := by decide +kernel
theorem dX8_give_104 : decode cX8_give 104 = .ok (.ifCond .eq 11, 3) := by decide +kernel
theorem dX8_give_107 : decode cX8_give 107 = .ok (.aload_n 0, 1) := by decide +kernel
theorem dX8_give_108 : decode cX8_give 108 = .ok (.iload_n 1, 1) := by decide +kernel
theorem dX8_give_109 : decode cX8_give 109 = .ok (.invokevirtual 202, 3) := by decide +kernel
theorem dX8_give_112 : decode cX8_give 112 = .ok (.goto 8, 3) := by decide +kernel
theorem dX8_give_115 : decode cX8_give 115 = .ok (.aload_n 0, 1) := by decide +kernel
theorem dX8_give_116 : decode cX8_give 116 = .ok (.iload_n 1, 1) := by decide +kernel
theorem dX8_give_117 : decode cX8_give 117 = .ok (.invokevirtual 206, 3) := by decide +kernel
theorem dX8_give_120 : decode cX8_give 120 = .ok (.iload_n 2, 1) := by decide +kernel
theorem dX8_give_121 : decode cX8_give 121 = .ok (.ireturn, 1) := by decide +kernel
theorem dX8_mix_0 : decode cX8_mix 0 = .ok (.lconst 0, 1) := by decide +kernel
theorem dX8_mix_1 : decode cX8_mix 1 = .ok (.lstore_n 2, 1) := by decide +kernel
theorem dX8_mix_2 : decode cX8_mix 2 = .ok (.iconst 0, 1) := by decide +kernel
theorem dX8_mix_3 : decode cX8_mix 3 = .ok (.istore 4, 2) := by decide +kernel
theorem dX8_mix_5 : decode cX8_mix 5 = .ok (.iload 4, 2) := by decide +kernel
theorem dX8_mix_7 : decode cX8_mix 7 = .ok (.bipush 24, 2) := by decide +kernel
theorem dX8_mix_9 : decode cX8_mix 9 = .ok (.if_icmp .ge 117, 3) := by decide +kernel
theorem dX8_mix_12 : decode cX8_mix 12 = .ok (.lload_n 2, 1) := by decide +kernel
theorem dX8_mix_13 : decode cX8_mix 13 = .ok (.aload_n 0, 1) := by decide +kernel
theorem dX8_mix_14 : decode cX8_mix 14 = .ok (.getfield 117, 3) := by decide +kernel
theorem dX8_mix_17 : decode cX8_mix 17 = .ok (.iload 4, 2) := by decide +kernel
theorem dX8_mix_19 : decode cX8_mix 19 = .ok (.iaload, 1) := by decide +kernel
theorem dX8_mix_20 : decode cX8_mix 20 = .ok (.i2l, 1) := by decide +kernel
theorem dX8_mix_21 : decode cX8_mix 21 = .ok (.aload_n 0, 1) := by decide +kernel
theorem dX8_mix_22 : decode cX8_mix 22 = .ok (.getfield 117, 3) := by decide +kernel
theorem dX8_mix_25 : decode cX8_mix 25 = .ok (.iload 4, 2) := by decide +kernel
theorem dX8_mix_27 : decode cX8_mix 27 = .ok (.iaload, 1) := by decide +kernel
theorem dX8_mix_28 : decode cX8_mix 28 = .ok (.i2l, 1) := by decide +kernel
theorem dX8_mix_29 : decode cX8_mix 29 = .ok (.lmul, 1) := by decide +kernel
theorem dX8_mix_30 : decode cX8_mix 30 = .ok (.ladd, 1) := by decide +kernel
theorem dX8_mix_31 : decode cX8_mix 31 = .ok (.aload_n 0, 1) := by decide +kernel
theorem dX8_mix_32 : decode cX8_mix 32 = .ok (.getfield 120, 3) := by decide +kernel
theorem dX8_mix_35 : decode cX8_mix 35 = .ok (.iload 4, 2) := by decide +kernel
theorem dX8_mix_37 : decode cX8_mix 37 = .ok (.iaload, 1) := by decide +kernel
theorem dX8_mix_38 : decode cX8_mix 38 = .ok (.i2l, 1) := by decide +kernel
theorem dX8_mix_39 : decode cX8_mix 39 = .ok (.aload_n 0, 1) := by decide +kernel
theorem dX8_mix_40 : decode cX8_mix 40 = .ok (.getfield 120, 3) := by decide +kernel
theorem dX8_mix_43 : decode cX8_mix 43 = .ok (.iload 4, 2) := by decide +kernel
theorem dX8_mix_45 : decode cX8_mix 45 = .ok (.iaload, 1) := by decide +kernel
theorem dX8_mix_46 : decode cX8_mix 46 = .ok (.i2l, 1) := by decide +kernel
theorem dX8_mix_47 : decode cX8_mix 47 = .ok (.lmul, 1) := by decide +kernel
theorem dX8_mix_48 : decode cX8_mix 48 = .ok (.ladd, 1) := by decide +kernel
theorem dX8_mix_49 : decode cX8_mix 49 = .ok (.lstore_n 2, 1) := by decide +kernel
theorem dX8_mix_50 : decode cX8_mix 50 = .ok (.aload_n 0, 1) := by decide +kernel
theorem dX8_mix_51 : decode cX8_mix 51 = .ok (.getfield 111, 3) := by decide +kernel
theorem dX8_mix_54 : decode cX8_mix 54 = .ok (.iload 4, 2) := by decide +kernel
theorem dX8_mix_56 : decode cX8_mix 56 = .ok (.aload_n 0, 1) := by decide +kernel
theorem dX8_mix_57 : decode cX8_mix 57 = .ok (.getfield 111, 3) := by decide +kernel
theorem dX8_mix_60 : decode cX8_mix 60 = .ok (.iload 4, 2) := by decide +kernel
theorem dX8_mix_62 : decode cX8_mix 62 = .ok (.iaload, 1) := by decide +kernel
theorem dX8_mix_63 : decode cX8_mix 63 = .ok (.aload_n 0, 1) := by decide +kernel
theorem dX8_mix_64 : decode cX8_mix 64 = .ok (.getfield 117, 3) := by decide +kernel
theorem dX8_mix_67 : decode cX8_mix 67 = .ok (.iload 4, 2) := by decide +kernel
theorem dX8_mix_69 : decode cX8_mix 69 = .ok (.iaload, 1) := by decide +kernel
theorem dX8_mix_70 : decode cX8_mix 70 = .ok (.aload_n 0, 1) := by decide +kernel
theorem dX8_mix_71 : decode cX8_mix 71 = .ok (.getfield 29, 3) := by decide +kernel
theorem dX8_mix_74 : decode cX8_mix 74 = .ok (.iload_n 1, 1) := by decide +kernel
theorem dX8_mix_75 : decode cX8_mix 75 = .ok (.iaload, 1) := by decide +kernel
theorem dX8_mix_76 : decode cX8_mix 76 = .ok (.imul, 1) := by decide +kernel
theorem dX8_mix_77 : decode cX8_mix 77 = .ok (.sipush 256, 3) := by decide +kernel
theorem dX8_mix_80 : decode cX8_mix 80 = .ok (.invokestatic 185, 3) := by decide +kernel
theorem dX8_mix_83 : decode cX8_mix 83 = .ok (.iadd, 1) := by decide +kernel
theorem dX8_mix_84 : decode cX8_mix 84 = .ok (.iastore, 1) := by decide +kernel
theorem dX8_mix_85 : decode cX8_mix 85 = .ok (.aload_n 0, 1) := by decide +kernel
theorem dX8_mix_86 : decode cX8_mix 86 = .ok (.getfield 114, 3) := by decide +kernel
theorem dX8_mix_89 : decode cX8_mix 89 = .ok (.iload 4, 2) := by decide +kernel
theorem dX8_mix_91 : decode cX8_mix 91 = .ok (.aload_n 0, 1) := by decide +kernel
theorem dX8_mix_92 : decode cX8_mix 92 = .ok (.getfield 114, 3) := by decide +kernel
theorem dX8_mix_95 : decode cX8_mix 95 = .ok (.iload 4, 2) := by decide +kernel
theorem dX8_mix_97 : decode cX8_mix 97 = .ok (.iaload, 1) := by decide +kernel
theorem dX8_mix_98 : decode cX8_mix 98 = .ok (.aload_n 0, 1) := by decide +kernel
theorem dX8_mix_99 : decode cX8_mix 99 = .ok (.getfield 120, 3) := by decide +kernel
theorem dX8_mix_102 : decode cX8_mix 102 = .ok (.iload 4, 2) := by decide +kernel
theorem dX8_mix_104 : decode cX8_mix 104 = .ok (.iaload, 1) := by decide +kernel
theorem dX8_mix_105 : decode cX8_mix 105 = .ok (.aload_n 0, 1) := by decide +kernel
theorem dX8_mix_106 : decode cX8_mix 106 = .ok (.getfield 29, 3) := by decide +kernel
theorem dX8_mix_109 : decode cX8_mix 109 = .ok (.iload_n 1, 1) := by decide +kernel
theorem dX8_mix_110 : decode cX8_mix 110 = .ok (.iaload, 1) := by decide +kernel
theorem dX8_mix_111 : decode cX8_mix 111 = .ok (.imul, 1) := by decide +kernel
theorem dX8_mix_112 : decode cX8_mix 112 = .ok (.sipush 256, 3) := by decide +kernel
theorem dX8_mix_115 : decode cX8_mix 115 = .ok (.invokestatic 185, 3) := by decide +kernel
theorem dX8_mix_118 : decode cX8_mix 118 = .ok (.iadd, 1) := by decide +kernel
theorem dX8_mix_119 : decode cX8_mix 119 = .ok (.iastore, 1) := by decide +kernel
theorem dX8_mix_120 : decode cX8_mix 120 = .ok (.iinc 4 1, 3) := by decide +kernel
theorem dX8_mix_123 : decode cX8_mix 123 = .ok (.goto (-118), 3) := by decide +kernel
theorem dX8_mix_126 : decode cX8_mix 126 = .ok (.aload_n 0, 1) := by decide +kernel
theorem dX8_mix_127 : decode cX8_mix 127 = .ok (.getfield 66, 3) := by decide +kernel
theorem dX8_mix_130 : decode cX8_mix 130 = .ok (.iload_n 1, 1) := by decide +kernel
theorem dX8_mix_131 : decode cX8_mix 131 = .ok (.lload_n 2, 1) := by decide +kernel
theorem dX8_mix_132 : decode cX8_mix 132 = .ok (.l2d, 1) := by decide +kernel
theorem dX8_mix_133 : decode cX8_mix 133 = .ok (.ldc2_w 209, 3) := by decide +kernel
theorem dX8_mix_136 : decode cX8_mix 136 = .ok (.ddiv, 1) := by decide +kernel
theorem dX8_mix_137 : decode cX8_mix 137 = .ok (.dastore, 1) := by decide +kernel
theorem dX8_mix_138 : decode cX8_mix 138 = .ok (.return_, 1) := by decide +kernel
theorem dX8_sizeOf_0 : decode cX8_sizeOf 0 = .ok (.iload_n 0, 1) := by decide +kernel
theorem dX8_sizeOf_1 : decode cX8_sizeOf 1 = .ok (.ifCond .ge 9, 3) := by decide +kernel
theorem dX8_sizeOf_4 : decode cX8_sizeOf 4 = .ok (.iload_n 0, 1) := by decide +kernel
theorem dX8_sizeOf_5 : decode cX8_sizeOf 5 = .ok (.i2l, 1) := by decide +kernel
theorem dX8_sizeOf_6 : decode cX8_sizeOf 6 = .ok (.lneg, 1) := by decide +kernel
theorem dX8_sizeOf_7 : decode cX8_sizeOf 7 = .ok (.goto 5, 3) := by decide +kernel
theorem dX8_sizeOf_10 : decode cX8_sizeOf 10 = .ok (.iload_n 0, 1) := by decide +kernel
theorem dX8_sizeOf_11 : decode cX8_sizeOf 11 = .ok (.i2l, 1) := by decide +kernel
theorem dX8_sizeOf_12 : decode cX8_sizeOf 12 = .ok (.lreturn, 1) := by decide +kernel
theorem dX8_cut_0 : decode cX8_cut 0 = .ok (.lload_n 1, 1) := by decide +kernel
theorem dX8_cut_1 : decode cX8_cut 1 = .ok (.ldc2_w 211, 3) := by decide +kernel
theorem dX8_cut_4 : decode cX8_cut 4 = .ok (.lcmp, 1) := by decide +kernel
theorem dX8_cut_5 : decode cX8_cut 5 = .ok (.ifCond .lt 11, 3) := by decide +kernel
theorem dX8_cut_8 : decode cX8_cut 8 = .ok (.lload_n 1, 1) := by decide +kernel
theorem dX8_cut_9 : decode cX8_cut 9 = .ok (.ldc2_w 213, 3) := by decide +kernel
theorem dX8_cut_12 : decode cX8_cut 12 = .ok (.lcmp, 1) := by decide +kernel
theorem dX8_cut_13 : decode cX8_cut 13 = .ok (.ifCond .le 13, 3) := by decide +kernel
theorem dX8_cut_16 : decode cX8_cut 16 = .ok (.aload_n 0, 1) := by decide +kernel
theorem dX8_cut_17 : decode cX8_cut 17 = .ok (.dup, 1) := by decide +kernel
theorem dX8_cut_18 : decode cX8_cut 18 = .ok (.getfield 215, 3) := by decide +kernel
theorem dX8_cut_21 : decode cX8_cut 21 = .ok (.iconst 1, 1) := by decide +kernel
theorem dX8_cut_22 : decode cX8_cut 22 = .ok (.iadd, 1) := by decide +kernel
theorem dX8_cut_23 : decode cX8_cut 23 = .ok (.putfield 215, 3) := by decide +kernel
theorem dX8_cut_26 : decode cX8_cut 26 = .ok (.lload_n 1, 1) := by decide +kernel
theorem dX8_cut_27 : decode cX8_cut 27 = .ok (.ldc2_w 211, 3) := by decide +kernel
theorem dX8_cut_30 : decode cX8_cut 30 = .ok (.lcmp, 1) := by decide +kernel
theorem dX8_cut_31 : decode cX8_cut 31 = .ok (.ifCond .ge 9, 3) := by decide +kernel
theorem dX8_cut_34 : decode cX8_cut 34 = .ok (.sipush (-32768), 3) := by decide +kernel
theorem dX8_cut_37 : decode cX8_cut 37 = .ok (.goto 19, 3) := by decide +kernel
theorem dX8_cut_40 : decode cX8_cut 40 = .ok (.lload_n 1, 1) := by decide +kernel
theorem dX8_cut_41 : decode cX8_cut 41 = .ok (.ldc2_w 213, 3) := by decide +kernel
theorem dX8_cut_44 : decode cX8_cut 44 = .ok (.lcmp, 1) := by decide +kernel
theorem dX8_cut_45 : decode cX8_cut 45 = .ok (.ifCond .le 9, 3) := by decide +kernel
theorem dX8_cut_48 : decode cX8_cut 48 = .ok (.sipush 32767, 3) := by decide +kernel
theorem dX8_cut_51 : decode cX8_cut 51 = .ok (.goto 5, 3) := by decide +kernel
theorem dX8_cut_54 : decode cX8_cut 54 = .ok (.lload_n 1, 1) := by decide +kernel
theorem dX8_cut_55 : decode cX8_cut 55 = .ok (.l2i, 1) := by decide +kernel
theorem dX8_cut_56 : decode cX8_cut 56 = .ok (.ireturn, 1) := by decide +kernel
theorem dX8_limitFrame_0 : decode cX8_limitFrame 0 = .ok (.aload_n 0, 1) := by decide +kernel
theorem dX8_limitFrame_1 : decode cX8_limitFrame 1 = .ok (.getfield 218, 3) := by decide +kernel
theorem dX8_limitFrame_4 : decode cX8_limitFrame 4 = .ok (.bipush 32, 2) := by decide +kernel
theorem dX8_limitFrame_6 : decode cX8_limitFrame 6 = .ok (.irem, 1) := by decide +kernel
theorem dX8_limitFrame_7 : decode cX8_limitFrame 7 = .ok (.ifCond .ne 33, 3) := by decide +kernel
theorem dX8_limitFrame_10 : decode cX8_limitFrame 10 = .ok (.aload_n 0, 1) := by decide +kernel
theorem dX8_limitFrame_11 : decode cX8_limitFrame 11 = .ok (.aload_n 0, 1) := by decide +kernel
theorem dX8_limitFrame_12 : decode cX8_limitFrame 12 = .ok (.getfield 107, 3) := by decide +kernel
theorem dX8_limitFrame_15 : decode cX8_limitFrame 15 = .ok (.bipush 16, 2) := by decide +kernel
theorem dX8_limitFrame_17 : decode cX8_limitFrame 17 = .ok (.iadd, 1) := by decide +kernel
theorem dX8_limitFrame_18 : decode cX8_limitFrame 18 = .ok (.sipush 4096, 3) := by decide +kernel
theorem dX8_limitFrame_21 : decode cX8_limitFrame 21 = .ok (.if_icmp .le 9, 3) := by decide +kernel
theorem dX8_limitFrame_24 : decode cX8_limitFrame 24 = .ok (.sipush 4096, 3) := by decide +kernel
theorem dX8_limitFrame_27 : decode cX8_limitFrame 27 = .ok (.goto 10, 3) := by decide +kernel
theorem dX8_limitFrame_30 : decode cX8_limitFrame 30 = .ok (.aload_n 0, 1) := by decide +kernel
theorem dX8_limitFrame_31 : decode cX8_limitFrame 31 = .ok (.getfield 107, 3) := by decide +kernel
theorem dX8_limitFrame_34 : decode cX8_limitFrame 34 = .ok (.bipush 16, 2) := by decide +kernel
theorem dX8_limitFrame_36 : decode cX8_limitFrame 36 = .ok (.iadd, 1) := by decide +kernel
theorem dX8_limitFrame_37 : decode cX8_limitFrame 37 = .ok (.putfield 107, 3) := by decide +kernel
theorem dX8_limitFrame_40 : decode cX8_limitFrame 40 = .ok (.aload_n 0, 1) := by decide +kernel
theorem dX8_limitFrame_41 : decode cX8_limitFrame 41 = .ok (.getfield 111, 3) := by decide +kernel
theorem dX8_limitFrame_44 : decode cX8_limitFrame 44 = .ok (.iload_n 1, 1) := by decide +kernel
theorem dX8_limitFrame_45 : decode cX8_limitFrame 45 = .ok (.iaload, 1) := by decide +kernel
theorem dX8_limitFrame_46 : decode cX8_limitFrame 46 = .ok (.invokestatic 221, 3) := by decide +kernel
theorem dX8_limitFrame_49 : decode cX8_limitFrame 49 = .ok (.aload_n 0, 1) := by decide +kernel
theorem dX8_limitFrame_50 : decode cX8_limitFrame 50 = .ok (.getfield 114, 3) := by decide +kernel
theorem dX8_limitFrame_53 : decode cX8_limitFrame 53 = .ok (.iload_n 1, 1) := by decide +kernel
theorem dX8_limitFrame_54 : decode cX8_limitFrame 54 = .ok (.iaload, 1) := by decide +kernel
theorem dX8_limitFrame_55 : decode cX8_limitFrame 55 = .ok (.invokestatic 221, 3) := by decide +kernel
theorem dX8_limitFrame_58 : decode cX8_limitFrame 58 = .ok (.lcmp, 1) := by decide +kernel
theorem dX8_limitFrame_59 : decode cX8_limitFrame 59 = .ok (.ifCond .le 15, 3) := by decide +kernel
theorem dX8_limitFrame_62 : decode cX8_limitFrame 62 = .ok (.aload_n 0, 1) := by decide +kernel
theorem dX8_limitFrame_63 : decode cX8_limitFrame 63 = .ok (.getfield 111, 3) := by decide +kernel
theorem dX8_limitFrame_66 : decode cX8_limitFrame 66 = .ok (.iload_n 1, 1) := by decide +kernel
theorem dX8_limitFrame_67 : decode cX8_limitFrame 67 = .ok (.iaload, 1) := by decide +kernel
theorem dX8_limitFrame_68 : decode cX8_limitFrame 68 = .ok (.invokestatic 221, 3) := by decide +kernel
theorem dX8_limitFrame_71 : decode cX8_limitFrame 71 = .ok (.goto 12, 3) := by decide +kernel
theorem dX8_limitFrame_74 : decode cX8_limitFrame 74 = .ok (.aload_n 0, 1) := by decide +kernel
theorem dX8_limitFrame_75 : decode cX8_limitFrame 75 = .ok (.getfield 114, 3) := by decide +kernel
theorem dX8_limitFrame_78 : decode cX8_limitFrame 78 = .ok (.iload_n 1, 1) := by decide +kernel
theorem dX8_limitFrame_79 : decode cX8_limitFrame 79 = .ok (.iaload, 1) := by decide +kernel
theorem dX8_limitFrame_80 : decode cX8_limitFrame 80 = .ok (.invokestatic 221, 3) := by decide +kernel
theorem dX8_limitFrame_83 : decode cX8_limitFrame 83 = .ok (.lstore_n 2, 1) := by decide +kernel
theorem dX8_limitFrame_84 : decode cX8_limitFrame 84 = .ok (.lload_n 2, 1) := by decide +kernel
theorem dX8_limitFrame_85 : decode cX8_limitFrame 85 = .ok (.aload_n 0, 1) := by decide +kernel
theorem dX8_limitFrame_86 : decode cX8_limitFrame 86 = .ok (.getfield 107, 3) := by decide +kernel
theorem dX8_limitFrame_89 : decode cX8_limitFrame 89 = .ok (.i2l, 1) := by decide +kernel
theorem dX8_limitFrame_90 : decode cX8_limitFrame 90 = .ok (.lmul, 1) := by decide +kernel
theorem dX8_limitFrame_91 : decode cX8_limitFrame 91 = .ok (.ldc2_w 225, 3) := by decide +kernel
theorem dX8_limitFrame_94 : decode cX8_limitFrame 94 = .ok (.lcmp, 1) := by decide +kernel
theorem dX8_limitFrame_95 : decode cX8_limitFrame 95 = .ok (.ifCond .le 13, 3) := by decide +kernel
theorem dX8_limitFrame_98 : decode cX8_limitFrame 98 = .ok (.aload_n 0, 1) := by decide +kernel
theorem dX8_limitFrame_99 : decode cX8_limitFrame 99 = .ok (.ldc2_w 225, 3) := by decide +kernel
theorem dX8_limitFrame_102 : decode cX8_limitFrame 102 = .ok (.lload_n 2, 1) := by decide +kernel
theorem dX8_limitFrame_103 : decode cX8_limitFrame 103 = .ok (.ldiv, 1) := by decide +kernel
theorem dX8_limitFrame_104 : decode cX8_limitFrame 104 = .ok (.l2i, 1) := by decide +kernel
theorem dX8_limitFrame_105 : decode cX8_limitFrame 105 = .ok (.putfield 107, 3) := by decide +kernel
theorem dX8_limitFrame_108 : decode cX8_limitFrame 108 = .ok (.aload_n 0, 1) := by decide +kernel
theorem dX8_limitFrame_109 : decode cX8_limitFrame 109 = .ok (.getfield 111, 3) := by decide +kernel
theorem dX8_limitFrame_112 : decode cX8_limitFrame 112 = .ok (.iload_n 1, 1) := by decide +kernel
theorem dX8_limitFrame_113 : decode cX8_limitFrame 113 = .ok (.aload_n 0, 1) := by decide +kernel
theorem dX8_limitFrame_114 : decode cX8_limitFrame 114 = .ok (.getfield 111, 3) := by decide +kernel
theorem dX8_limitFrame_117 : decode cX8_limitFrame 117 = .ok (.iload_n 1, 1) := by decide +kernel
theorem dX8_limitFrame_118 : decode cX8_limitFrame 118 = .ok (.iaload, 1) := by decide +kernel
theorem dX8_limitFrame_119 : decode cX8_limitFrame 119 = .ok (.i2l, 1) := by decide +kernel
theorem dX8_limitFrame_120 : decode cX8_limitFrame 120 = .ok (.aload_n 0, 1) := by decide +kernel
theorem dX8_limitFrame_121 : decode cX8_limitFrame 121 = .ok (.getfield 107, 3) := by decide +kernel
theorem dX8_limitFrame_124 : decode cX8_limitFrame 124 = .ok (.i2l, 1) := by decide +kernel
theorem dX8_limitFrame_125 : decode cX8_limitFrame 125 = .ok (.lmul, 1) := by decide +kernel
theorem dX8_limitFrame_126 : decode cX8_limitFrame 126 = .ok (.ldc2_w 227, 3) := by decide +kernel
theorem dX8_limitFrame_129 : decode cX8_limitFrame 129 = .ok (.invokestatic 134, 3) := by decide +kernel
theorem dX8_limitFrame_132 : decode cX8_limitFrame 132 = .ok (.l2i, 1) := by decide +kernel
theorem dX8_limitFrame_133 : decode cX8_limitFrame 133 = .ok (.iastore, 1) := by decide +kernel
theorem dX8_limitFrame_134 : decode cX8_limitFrame 134 = .ok (.aload_n 0, 1) := by decide +kernel
theorem dX8_limitFrame_135 : decode cX8_limitFrame 135 = .ok (.getfield 114, 3) := by decide +kernel
theorem dX8_limitFrame_138 : decode cX8_limitFrame 138 = .ok (.iload_n 1, 1) := by decide +kernel
theorem dX8_limitFrame_139 : decode cX8_limitFrame 139 = .ok (.aload_n 0, 1) := by decide +kernel
theorem dX8_limitFrame_140 : decode cX8_limitFrame 140 = .ok (.getfield 114, 3) := by decide +kernel
theorem dX8_limitFrame_143 : decode cX8_limitFrame 143 = .ok (.iload_n 1, 1) := by decide +kernel
theorem dX8_limitFrame_144 : decode cX8_limitFrame 144 = .ok (.iaload, 1) := by decide +kernel
theorem dX8_limitFrame_145 : decode cX8_limitFrame 145 = .ok (.i2l, 1) := by decide +kernel
theorem dX8_limitFrame_146 : decode cX8_limitFrame 146 = .ok (.aload_n 0, 1) := by decide +kernel
theorem dX8_limitFrame_147 : decode cX8_limitFrame 147 = .ok (.getfield 107, 3) := by decide +kernel
theorem dX8_limitFrame_150 : decode cX8_limitFrame 150 = .ok (.i2l, 1) := by decide +kernel
theorem dX8_limitFrame_151 : decode cX8_limitFrame 151 = .ok (.lmul, 1) := by decide +kernel
theorem dX8_limitFrame_152 : decode cX8_limitFrame 152 = .ok (.ldc2_w 227, 3) := by decide +kernel
theorem dX8_limitFrame_155 : decode cX8_limitFrame 155 = .ok (.invokestatic 134, 3) := by decide +kernel
theorem dX8_limitFrame_158 : decode cX8_limitFrame 158 = .ok (.l2i, 1) := by decide +kernel
theorem dX8_limitFrame_159 : decode cX8_limitFrame 159 = .ok (.iastore, 1) := by decide +kernel
theorem dX8_limitFrame_160 : decode cX8_limitFrame 160 = .ok (.return_, 1) := by decide +kernel
theorem dX8_prepare_0 : decode cX8_prepare 0 = .ok (.aload_n 0, 1) := by decide +kernel
theorem dX8_prepare_1 : decode cX8_prepare 1 = .ok (.iconst 0, 1) := by decide +kernel
theorem dX8_prepare_2 : decode cX8_prepare 2 = .ok (.putfield 127, 3) := by decide +kernel
theorem dX8_prepare_5 : decode cX8_prepare 5 = .ok (.aload_n 0, 1) := by decide +kernel
theorem dX8_prepare_6 : decode cX8_prepare 6 = .ok (.getfield 229, 3) := by decide +kernel
theorem dX8_prepare_9 : decode cX8_prepare 9 = .ok (.iconst 4, 1) := by decide +kernel
theorem dX8_prepare_10 : decode cX8_prepare 10 = .ok (.if_icmp .ne 5, 3) := by decide +kernel
theorem dX8_prepare_13 : decode cX8_prepare 13 = .ok (.iconst 0, 1) := by decide +kernel
theorem dX8_prepare_14 : decode cX8_prepare 14 = .ok (.ireturn, 1) := by decide +kernel
theorem dX8_prepare_15 : decode cX8_prepare 15 = .ok (.iconst 0, 1) := by decide +kernel
theorem dX8_prepare_16 : decode cX8_prepare 16 = .ok (.istore_n 1, 1) := by decide +kernel
theorem dX8_prepare_17 : decode cX8_prepare 17 = .ok (.iload_n 1, 1) := by decide +kernel
theorem dX8_prepare_18 : decode cX8_prepare 18 = .ok (.bipush 24, 2) := by decide +kernel
theorem dX8_prepare_20 : decode cX8_prepare 20 = .ok (.if_icmp .ge 23, 3) := by decide +kernel
theorem dX8_prepare_23 : decode cX8_prepare 23 = .ok (.aload_n 0, 1) := by decide +kernel
theorem dX8_prepare_24 : decode cX8_prepare 24 = .ok (.getfield 111, 3) := by decide +kernel
theorem dX8_prepare_27 : decode cX8_prepare 27 = .ok (.iload_n 1, 1) := by decide +kernel
theorem dX8_prepare_28 : decode cX8_prepare 28 = .ok (.iconst 0, 1) := by decide +kernel
theorem dX8_prepare_29 : decode cX8_prepare 29 = .ok (.iastore, 1) := by decide +kernel
theorem dX8_prepare_30 : decode cX8_prepare 30 = .ok (.aload_n 0, 1) := by decide +kernel
theorem dX8_prepare_31 : decode cX8_prepare 31 = .ok (.getfield 114, 3) := by decide +kernel
theorem dX8_prepare_34 : decode cX8_prepare 34 = .ok (.iload_n 1, 1) := by decide +kernel
theorem dX8_prepare_35 : decode cX8_prepare 35 = .ok (.iconst 0, 1) := by decide +kernel
theorem dX8_prepare_36 : decode cX8_prepare 36 = .ok (.iastore, 1) := by decide +kernel
theorem dX8_prepare_37 : decode cX8_prepare 37 = .ok (.iinc 1 1, 3) := by decide +kernel
theorem dX8_prepare_40 : decode cX8_prepare 40 = .ok (.goto (-23), 3) := by decide +kernel
theorem dX8_prepare_43 : decode cX8_prepare 43 = .ok (.iconst 0, 1) := by decide +kernel
theorem dX8_prepare_44 : decode cX8_prepare 44 = .ok (.istore_n 1, 1) := by decide +kernel
theorem dX8_prepare_45 : decode cX8_prepare 45 = .ok (.iload_n 1, 1) := by decide +kernel
theorem dX8_prepare_46 : decode cX8_prepare 46 = .ok (.bipush 6, 2) := by decide +kernel
theorem dX8_prepare_48 : decode cX8_prepare 48 = .ok (.if_icmp .ge 64, 3) := by decide +kernel
theorem dX8_prepare_51 : decode cX8_prepare 51 = .ok (.iconst 0, 1) := by decide +kernel
theorem dX8_prepare_52 : decode cX8_prepare 52 = .ok (.istore_n 2, 1) := by decide +kernel
theorem dX8_prepare_53 : decode cX8_prepare 53 = .ok (.aload_n 0, 1) := by decide +kernel
theorem dX8_prepare_54 : decode cX8_prepare 54 = .ok (.getfield 13, 3) := by decide +kernel
theorem dX8_prepare_57 : decode cX8_prepare 57 = .ok (.iload_n 1, 1) := by decide +kernel
theorem dX8_prepare_58 : decode cX8_prepare 58 = .ok (.baload, 1) := by decide +kernel
theorem dX8_prepare_59 : decode cX8_prepare 59 = .ok (.ifCond .eq 23, 3) := by decide +kernel
theorem dX8_prepare_62 : decode cX8_prepare 62 = .ok (.aload_n 0, 1) := by decide +kernel
theorem dX8_prepare_63 : decode cX8_prepare 63 = .ok (.getfield 17, 3) := by decide +kernel
theorem dX8_prepare_66 : decode cX8_prepare 66 = .ok (.iload_n 1, 1) := by decide +kernel
theorem dX8_prepare_67 : decode cX8_prepare 67 = .ok (.baload, 1) := by decide +kernel
theorem dX8_prepare_68 : decode cX8_prepare 68 = .ok (.ifCond .eq 14, 3) := by decide +kernel
theorem dX8_prepare_71 : decode cX8_prepare 71 = .ok (.aload_n 0, 1) := by decide +kernel
theorem dX8_prepare_72 : decode cX8_prepare 72 = .ok (.iload_n 1, 1) := by decide +kernel
theorem dX8_prepare_73 : decode cX8_prepare 73 = .ok (.invokevirtual 232, 3) := by decide +kernel
theorem dX8_prepare_76 : decode cX8_prepare 76 = .ok (.istore_n 2, 1) := by decide +kernel
theorem dX8_prepare_77 : decode cX8_prepare 77 = .ok (.aload_n 0, 1) := by decide +kernel
theorem dX8_prepare_78 : decode cX8_prepare 78 = .ok (.iload_n 1, 1) := by decide +kernel
theorem dX8_prepare_79 : decode cX8_prepare 79 = .ok (.invokevirtual 235, 3) := by decide +kernel
theorem dX8_prepare_82 : decode cX8_prepare 82 = .ok (.aload_n 0, 1) := by decide +kernel
theorem dX8_prepare_83 : decode cX8_prepare 83 = .ok (.getfield 88, 3) := by decide +kernel
theorem dX8_prepare_86 : decode cX8_prepare 86 = .ok (.bipush 6, 2) := by decide +kernel
theorem dX8_prepare_88 : decode cX8_prepare 88 = .ok (.aload_n 0, 1) := by decide +kernel
theorem dX8_prepare_89 : decode cX8_prepare 89 = .ok (.getfield 229, 3) := by decide +kernel
theorem dX8_prepare_92 : decode cX8_prepare 92 = .ok (.imul, 1) := by decide +kernel
theorem dX8_prepare_93 : decode cX8_prepare 93 = .ok (.iload_n 1, 1) := by decide +kernel
theorem dX8_prepare_94 : decode cX8_prepare 94 = .ok (.iadd, 1) := by decide +kernel
theorem dX8_prepare_95 : decode cX8_prepare 95 = .ok (.iload_n 2, 1) := by decide +kernel
theorem dX8_prepare_96 : decode cX8_prepare 96 = .ok (.ifCond .eq 8, 3) := by decide +kernel
theorem dX8_prepare_99 : decode cX8_prepare 99 = .ok (.bipush 24, 2) := by decide +kernel
theorem dX8_prepare_101 : decode cX8_prepare 101 = .ok (.goto 4, 3) := by decide +kernel
theorem dX8_prepare_104 : decode cX8_prepare 104 = .ok (.iconst 0, 1) := by decide +kernel
theorem dX8_prepare_105 : decode cX8_prepare 105 = .ok (.iastore, 1) := by decide +kernel
theorem dX8_prepare_106 : decode cX8_prepare 106 = .ok (.iinc 1 1, 3) := by decide +kernel
theorem dX8_prepare_109 : decode cX8_prepare 109 = .ok (.goto (-64), 3) := by decide +kernel
theorem dX8_prepare_112 : decode cX8_prepare 112 = .ok (.iconst 0, 1) := by decide +kernel
theorem dX8_prepare_113 : decode cX8_prepare 113 = .ok (.istore_n 1, 1) := by decide +kernel
theorem dX8_prepare_114 : decode cX8_prepare 114 = .ok (.iload_n 1, 1) := by decide +kernel
theorem dX8_prepare_115 : decode cX8_prepare 115 = .ok (.bipush 24, 2) := by decide +kernel
theorem dX8_prepare_117 : decode cX8_prepare 117 = .ok (.if_icmp .ge 81, 3) := by decide +kernel
theorem dX8_prepare_120 : decode cX8_prepare 120 = .ok (.aload_n 0, 1) := by decide +kernel
theorem dX8_prepare_121 : decode cX8_prepare 121 = .ok (.getfield 103, 3) := by decide +kernel
theorem dX8_prepare_124 : decode cX8_prepare 124 = .ok (.ifCond .eq 8, 3) := by decide +kernel
theorem dX8_prepare_127 : decode cX8_prepare 127 = .ok (.aload_n 0, 1) := by decide +kernel
theorem dX8_prepare_128 : decode cX8_prepare 128 = .ok (.iload_n 1, 1) := by decide +kernel
theorem dX8_prepare_129 : decode cX8_prepare 129 = .ok (.invokevirtual 238, 3) := by decide +kernel
theorem dX8_prepare_132 : decode cX8_prepare 132 = .ok (.aload_n 0, 1) := by decide +kernel
theorem dX8_prepare_133 : decode cX8_prepare 133 = .ok (.dup, 1) := by decide +kernel
theorem dX8_prepare_134 : decode cX8_prepare 134 = .ok (.getfield 218, 3) := by decide +kernel
theorem dX8_prepare_137 : decode cX8_prepare 137 = .ok (.iconst 1, 1) := by decide +kernel
theorem dX8_prepare_138 : decode cX8_prepare 138 = .ok (.iadd, 1) := by decide +kernel
theorem dX8_prepare_139 : decode cX8_prepare 139 = .ok (.putfield 218, 3) := by decide +kernel
theorem dX8_prepare_142 : decode cX8_prepare 142 = .ok (.aload_n 0, 1) := by decide +kernel
theorem dX8_prepare_143 : decode cX8_prepare 143 = .ok (.getfield 82, 3) := by decide +kernel
theorem dX8_prepare_146 : decode cX8_prepare 146 = .ok (.bipush 24, 2) := by decide +kernel
theorem dX8_prepare_148 : decode cX8_prepare 148 = .ok (.aload_n 0, 1) := by decide +kernel
theorem dX8_prepare_149 : decode cX8_prepare 149 = .ok (.getfield 229, 3) := by decide +kernel
theorem dX8_prepare_152 : decode cX8_prepare 152 = .ok (.imul, 1) := by decide +kernel
theorem dX8_prepare_153 : decode cX8_prepare 153 = .ok (.iload_n 1, 1) := by decide +kernel
theorem dX8_prepare_154 : decode cX8_prepare 154 = .ok (.iadd, 1) := by decide +kernel
theorem dX8_prepare_155 : decode cX8_prepare 155 = .ok (.aload_n 0, 1) := by decide +kernel
theorem dX8_prepare_156 : decode cX8_prepare 156 = .ok (.aload_n 0, 1) := by decide +kernel
theorem dX8_prepare_157 : decode cX8_prepare 157 = .ok (.getfield 111, 3) := by decide +kernel
theorem dX8_prepare_160 : decode cX8_prepare 160 = .ok (.iload_n 1, 1) := by decide +kernel
theorem dX8_prepare_161 : decode cX8_prepare 161 = .ok (.iaload, 1) := by decide +kernel
theorem dX8_prepare_162 : decode cX8_prepare 162 = .ok (.i2l, 1) := by decide +kernel
theorem dX8_prepare_163 : decode cX8_prepare 163 = .ok (.invokevirtual 241, 3) := by decide +kernel
theorem dX8_prepare_166 : decode cX8_prepare 166 = .ok (.iastore, 1) := by decide +kernel
theorem dX8_prepare_167 : decode cX8_prepare 167 = .ok (.aload_n 0, 1) := by decide +kernel
theorem dX8_prepare_168 : decode cX8_prepare 168 = .ok (.getfield 85, 3) := by decide +kernel
theorem dX8_prepare_171 : decode cX8_prepare 171 = .ok (.bipush 24, 2) := by decide +kernel
theorem dX8_prepare_173 : decode cX8_prepare 173 = .ok (.aload_n 0, 1) := by decide +kernel
theorem dX8_prepare_174 : decode cX8_prepare 174 = .ok (.getfield 229, 3) := by decide +kernel
theorem dX8_prepare_177 : decode cX8_prepare 177 = .ok (.imul, 1) := by decide +kernel
theorem dX8_prepare_178 : decode cX8_prepare 178 = .ok (.iload_n 1, 1) := by decide +kernel
theorem dX8_prepare_179 : decode cX8_prepare 179 = .ok (.iadd, 1) := by decide +kernel
theorem dX8_prepare_180 : decode cX8_prepare 180 = .ok (.aload_n 0, 1) := by decide +kernel
theorem dX8_prepare_181 : decode cX8_prepare 181 = .ok (.aload_n 0, 1) := by decide +kernel
theorem dX8_prepare_182 : decode cX8_prepare 182 = .ok (.getfield 114, 3) := by decide +kernel
theorem dX8_prepare_185 : decode cX8_prepare 185 = .ok (.iload_n 1, 1) := by decide +kernel
theorem dX8_prepare_186 : decode cX8_prepare 186 = .ok (.iaload, 1) := by decide +kernel
theorem dX8_prepare_187 : decode cX8_prepare 187 = .ok (.i2l, 1) := by decide +kernel
theorem dX8_prepare_188 : decode cX8_prepare 188 = .ok (.invokevirtual 241, 3) := by decide +kernel
theorem dX8_prepare_191 : decode cX8_prepare 191 = .ok (.iastore, 1) := by decide +kernel
theorem dX8_prepare_192 : decode cX8_prepare 192 = .ok (.iinc 1 1, 3) := by decide +kernel
theorem dX8_prepare_195 : decode cX8_prepare 195 = .ok (.goto (-81), 3) := by decide +kernel
theorem dX8_prepare_198 : decode cX8_prepare 198 = .ok (.aload_n 0, 1) := by decide +kernel
theorem dX8_prepare_199 : decode cX8_prepare 199 = .ok (.dup, 1) := by decide +kernel
theorem dX8_prepare_200 : decode cX8_prepare 200 = .ok (.getfield 229, 3) := by decide +kernel
theorem dX8_prepare_203 : decode cX8_prepare 203 = .ok (.iconst 1, 1) := by decide +kernel
theorem dX8_prepare_204 : decode cX8_prepare 204 = .ok (.iadd, 1) := by decide +kernel
theorem dX8_prepare_205 : decode cX8_prepare 205 = .ok (.putfield 229, 3) := by decide +kernel
theorem dX8_prepare_208 : decode cX8_prepare 208 = .ok (.iconst 1, 1) := by decide +kernel
theorem dX8_prepare_209 : decode cX8_prepare 209 = .ok (.ireturn, 1) := by decide +kernel
theorem dX8_capture_0 : decode cX8_capture 0 = .ok (.iconst 0, 1) := by decide +kernel
theorem dX8_capture_1 : decode cX8_capture 1 = .ok (.istore_n 2, 1) := by decide +kernel
theorem dX8_capture_2 : decode cX8_capture 2 = .ok (.iload_n 2, 1) := by decide +kernel
theorem dX8_capture_3 : decode cX8_capture 3 = .ok (.bipush 24, 2) := by decide +kernel
theorem dX8_capture_5 : decode cX8_capture 5 = .ok (.if_icmp .ge 26, 3) := by decide +kernel
theorem dX8_capture_8 : decode cX8_capture 8 = .ok (.aload_n 0, 1) := by decide +kernel
theorem dX8_capture_9 : decode cX8_capture 9 = .ok (.iload_n 1, 1) := by decide +kernel
theorem dX8_capture_10 : decode cX8_capture 10 = .ok (.aload_n 0, 1) := by decide +kernel
theorem dX8_capture_11 : decode cX8_capture 11 = .ok (.getfield 97, 3) := by decide +kernel
theorem dX8_capture_14 : decode cX8_capture 14 = .ok (.iload_n 2, 1) := by decide +kernel
theorem dX8_capture_15 : decode cX8_capture 15 = .ok (.iaload, 1) := by decide +kernel
theorem dX8_capture_16 : decode cX8_capture 16 = .ok (.aload_n 0, 1) := by decide +kernel
theorem dX8_capture_17 : decode cX8_capture 17 = .ok (.getfield 100, 3) := by decide +kernel
theorem dX8_capture_20 : decode cX8_capture 20 = .ok (.iload_n 2, 1) := by decide +kernel
theorem dX8_capture_21 : decode cX8_capture 21 = .ok (.iaload, 1) := by decide +kernel
theorem dX8_capture_22 : decode cX8_capture 22 = .ok (.invokevirtual 181, 3) := by decide +kernel
theorem dX8_capture_25 : decode cX8_capture 25 = .ok (.iinc 2 1, 3) := by decide +kernel
theorem dX8_capture_28 : decode cX8_capture 28 = .ok (.goto (-26), 3) := by decide +kernel
theorem dX8_capture_31 : decode cX8_capture 31 = .ok (.aload_n 0, 1) := by decide +kernel
theorem dX8_capture_32 : decode cX8_capture 32 = .ok (.getfield 70, 3) := by decide +kernel
theorem dX8_capture_35 : decode cX8_capture 35 = .ok (.iload_n 1, 1) := by decide +kernel
theorem dX8_capture_36 : decode cX8_capture 36 = .ok (.iaload, 1) := by decide +kernel
theorem dX8_capture_37 : decode cX8_capture 37 = .ok (.istore_n 2, 1) := by decide +kernel
theorem dX8_capture_38 : decode cX8_capture 38 = .ok (.aload_n 0, 1) := by decide +kernel
theorem dX8_capture_39 : decode cX8_capture 39 = .ok (.iload_n 1, 1) := by decide +kernel
theorem dX8_capture_40 : decode cX8_capture 40 = .ok (.aload_n 0, 1) := by decide +kernel
theorem dX8_capture_41 : decode cX8_capture 41 = .ok (.getfield 70, 3) := by decide +kernel
theorem dX8_capture_44 : decode cX8_capture 44 = .ok (.iload_n 1, 1) := by decide +kernel
theorem dX8_capture_45 : decode cX8_capture 45 = .ok (.iaload, 1) := by decide +kernel
theorem dX8_capture_46 : decode cX8_capture 46 = .ok (.ldc 139, 2) := by decide +kernel
theorem dX8_capture_48 : decode cX8_capture 48 = .ok (.aload_n 0, 1) := by decide +kernel
theorem dX8_capture_49 : decode cX8_capture 49 = .ok (.getfield 20, 3) := by decide +kernel
theorem dX8_capture_52 : decode cX8_capture 52 = .ok (.iload_n 1, 1) := by decide +kernel
theorem dX8_capture_53 : decode cX8_capture 53 = .ok (.iaload, 1) := by decide +kernel
theorem dX8_capture_54 : decode cX8_capture 54 = .ok (.invokevirtual 195, 3) := by decide +kernel
theorem dX8_capture_57 : decode cX8_capture 57 = .ok (.ifCond .eq 16, 3) := by decide +kernel
theorem dX8_capture_60 : decode cX8_capture 60 = .ok (.aload_n 0, 1) := by decide +kernel
theorem dX8_capture_61 : decode cX8_capture 61 = .ok (.getfield 70, 3) := by decide +kernel
theorem dX8_capture_64 : decode cX8_capture 64 = .ok (.iload_n 1, 1) := by decide +kernel
theorem dX8_capture_65 : decode cX8_capture 65 = .ok (.dup2, 1) := by decide +kernel
theorem dX8_capture_66 : decode cX8_capture 66 = .ok (.iaload, 1) := by decide +kernel
theorem dX8_capture_67 : decode cX8_capture 67 = .ok (.iconst 1, 1) := by decide +kernel
theorem dX8_capture_68 : decode cX8_capture 68 = .ok (.iadd, 1) := by decide +kernel
theorem dX8_capture_69 : decode cX8_capture 69 = .ok (.iastore, 1) := by decide +kernel
theorem dX8_capture_70 : decode cX8_capture 70 = .ok (.goto (-32), 3) := by decide +kernel
theorem dX8_capture_73 : decode cX8_capture 73 = .ok (.aload_n 0, 1) := by decide +kernel
theorem dX8_capture_74 : decode cX8_capture 74 = .ok (.getfield 70, 3) := by decide +kernel
theorem dX8_capture_77 : decode cX8_capture 77 = .ok (.iload_n 1, 1) := by decide +kernel
theorem dX8_capture_78 : decode cX8_capture 78 = .ok (.iaload, 1) := by decide +kernel
theorem dX8_capture_79 : decode cX8_capture 79 = .ok (.iload_n 2, 1) := by decide +kernel
theorem dX8_capture_80 : decode cX8_capture 80 = .ok (.isub, 1) := by decide +kernel
theorem dX8_capture_81 : decode cX8_capture 81 = .ok (.istore_n 3, 1) := by decide +kernel
theorem dX8_capture_82 : decode cX8_capture 82 = .ok (.aload_n 0, 1) := by decide +kernel
theorem dX8_capture_83 : decode cX8_capture 83 = .ok (.getfield 73, 3) := by decide +kernel
theorem dX8_capture_86 : decode cX8_capture 86 = .ok (.iload_n 1, 1) := by decide +kernel
theorem dX8_capture_87 : decode cX8_capture 87 = .ok (.iaload, 1) := by decide +kernel
theorem dX8_capture_88 : decode cX8_capture 88 = .ok (.iload_n 3, 1) := by decide +kernel
theorem dX8_capture_89 : decode cX8_capture 89 = .ok (.iadd, 1) := by decide +kernel
theorem dX8_capture_90 : decode cX8_capture 90 = .ok (.sipush 200, 3) := by decide +kernel
theorem dX8_capture_93 : decode cX8_capture 93 = .ok (.if_icmp .le 14, 3) := by decide +kernel
theorem dX8_capture_96 : decode cX8_capture 96 = .ok (.aload_n 0, 1) := by decide +kernel
theorem dX8_capture_97 : decode cX8_capture 97 = .ok (.getfield 35, 3) := by decide +kernel
theorem dX8_capture_100 : decode cX8_capture 100 = .ok (.iload_n 1, 1) := by decide +kernel
theorem dX8_capture_101 : decode cX8_capture 101 = .ok (.dup2, 1) := by decide +kernel
theorem dX8_capture_102 : decode cX8_capture 102 = .ok (.iaload, 1) := by decide +kernel
theorem dX8_capture_103 : decode cX8_capture 103 = .ok (.iconst 1, 1) := by decide +kernel
theorem dX8_capture_104 : decode cX8_capture 104 = .ok (.iadd, 1) := by decide +kernel
theorem dX8_capture_105 : decode cX8_capture 105 = .ok (.iastore, 1) := by decide +kernel
theorem dX8_capture_106 : decode cX8_capture 106 = .ok (.return_, 1) := by decide +kernel
theorem dX8_capture_107 : decode cX8_capture 107 = .ok (.iconst 0, 1) := by decide +kernel
theorem dX8_capture_108 : decode cX8_capture 108 = .ok (.istore 4, 2) := by decide +kernel
theorem dX8_capture_110 : decode cX8_capture 110 = .ok (.iload 4, 2) := by decide +kernel
theorem dX8_capture_112 : decode cX8_capture 112 = .ok (.iload_n 3, 1) := by decide +kernel
theorem dX8_capture_113 : decode cX8_capture 113 = .ok (.if_icmp .ge 40, 3) := by decide +kernel
theorem dX8_capture_116 : decode cX8_capture 116 = .ok (.aload_n 0, 1) := by decide +kernel
theorem dX8_capture_117 : decode cX8_capture 117 = .ok (.getfield 76, 3) := by decide +kernel
theorem dX8_capture_120 : decode cX8_capture 120 = .ok (.sipush 12800, 3) := by decide +kernel
theorem dX8_capture_123 : decode cX8_capture 123 = .ok (.iload_n 1, 1) := by decide +kernel
theorem dX8_capture_124 : decode cX8_capture 124 = .ok (.imul, 1) := by decide +kernel
theorem dX8_capture_125 : decode cX8_capture 125 = .ok (.aload_n 0, 1) := by decide +kernel
theorem dX8_capture_126 : decode cX8_capture 126 = .ok (.getfield 73, 3) := by decide +kernel
theorem dX8_capture_129 : decode cX8_capture 129 = .ok (.iload_n 1, 1) := by decide +kernel
theorem dX8_capture_130 : decode cX8_capture 130 = .ok (.iaload, 1) := by decide +kernel
theorem dX8_capture_131 : decode cX8_capture 131 = .ok (.iadd, 1) := by decide +kernel
theorem dX8_capture_132 : decode cX8_capture 132 = .ok (.iload_n 2, 1) := by decide +kernel
theorem dX8_capture_133 : decode cX8_capture 133 = .ok (.iload 4, 2) := by decide +kernel
theorem dX8_capture_135 : decode cX8_capture 135 = .ok (.iadd, 1) := by decide +kernel
theorem dX8_capture_136 : decode cX8_capture 136 = .ok (.iastore, 1) := by decide +kernel
theorem dX8_capture_137 : decode cX8_capture 137 = .ok (.aload_n 0, 1) := by decide +kernel
theorem dX8_capture_138 : decode cX8_capture 138 = .ok (.getfield 73, 3) := by decide +kernel
theorem dX8_capture_141 : decode cX8_capture 141 = .ok (.iload_n 1, 1) := by decide +kernel
theorem dX8_capture_142 : decode cX8_capture 142 = .ok (.dup2, 1) := by decide +kernel
theorem dX8_capture_143 : decode cX8_capture 143 = .ok (.iaload, 1) := by decide +kernel
theorem dX8_capture_144 : decode cX8_capture 144 = .ok (.iconst 1, 1) := by decide +kernel
theorem dX8_capture_145 : decode cX8_capture 145 = .ok (.iadd, 1) := by decide +kernel
theorem dX8_capture_146 : decode cX8_capture 146 = .ok (.iastore, 1) := by decide +kernel
theorem dX8_capture_147 : decode cX8_capture 147 = .ok (.iinc 4 1, 3) := by decide +kernel
theorem dX8_capture_150 : decode cX8_capture 150 = .ok (.goto (-40), 3) := by decide +kernel
theorem dX8_capture_153 : decode cX8_capture 153 = .ok (.return_, 1) := by decide +kernel
theorem dX8_playOne_0 : decode cX8_playOne 0 = .ok (.bipush 95, 2) := by decide +kernel
theorem dX8_playOne_2 : decode cX8_playOne 2 = .ok (.istore_n 2, 1) := by decide +kernel
theorem dX8_playOne_3 : decode cX8_playOne 3 = .ok (.iload_n 2, 1) := by decide +kernel
theorem dX8_playOne_4 : decode cX8_playOne 4 = .ok (.bipush 24, 2) := by decide +kernel
theorem dX8_playOne_6 : decode cX8_playOne 6 = .ok (.if_icmp .lt 39, 3) := by decide +kernel
theorem dX8_playOne_9 : decode cX8_playOne 9 = .ok (.aload_n 0, 1) := by decide +kernel
theorem dX8_playOne_10 : decode cX8_playOne 10 = .ok (.getfield 91, 3) := by decide +kernel
theorem dX8_playOne_13 : decode cX8_playOne 13 = .ok (.iload_n 2, 1) := by decide +kernel
theorem dX8_playOne_14 : decode cX8_playOne 14 = .ok (.aload_n 0, 1) := by decide +kernel
theorem dX8_playOne_15 : decode cX8_playOne 15 = .ok (.getfield 91, 3) := by decide +kernel
theorem dX8_playOne_18 : decode cX8_playOne 18 = .ok (.iload_n 2, 1) := by decide +kernel
theorem dX8_playOne_19 : decode cX8_playOne 19 = .ok (.bipush 24, 2) := by decide +kernel
theorem dX8_playOne_21 : decode cX8_playOne 21 = .ok (.isub, 1) := by decide +kernel
theorem dX8_playOne_22 : decode cX8_playOne 22 = .ok (.iaload, 1) := by decide +kernel
theorem dX8_playOne_23 : decode cX8_playOne 23 = .ok (.iastore, 1) := by decide +kernel
theorem dX8_playOne_24 : decode cX8_playOne 24 = .ok (.aload_n 0, 1) := by decide +kernel
theorem dX8_playOne_25 : decode cX8_playOne 25 = .ok (.getfield 94, 3) := by decide +kernel
theorem dX8_playOne_28 : decode cX8_playOne 28 = .ok (.iload_n 2, 1) := by decide +kernel
theorem dX8_playOne_29 : decode cX8_playOne 29 = .ok (.aload_n 0, 1) := by decide +kernel
theorem dX8_playOne_30 : decode cX8_playOne 30 = .ok (.getfield 94, 3) := by decide +kernel
theorem dX8_playOne_33 : decode cX8_playOne 33 = .ok (.iload_n 2, 1) := by decide +kernel
theorem dX8_playOne_34 : decode cX8_playOne 34 = .ok (.bipush 24, 2) := by decide +kernel
theorem dX8_playOne_36 : decode cX8_playOne 36 = .ok (.isub, 1) := by decide +kernel
theorem dX8_playOne_37 : decode cX8_playOne 37 = .ok (.iaload, 1) := by decide +kernel
theorem dX8_playOne_38 : decode cX8_playOne 38 = .ok (.iastore, 1) := by decide +kernel
theorem dX8_playOne_39 : decode cX8_playOne 39 = .ok (.iinc 2 (-1), 3) := by decide +kernel
theorem dX8_playOne_42 : decode cX8_playOne 42 = .ok (.goto (-39), 3) := by decide +kernel
theorem dX8_playOne_45 : decode cX8_playOne 45 = .ok (.iconst 0, 1) := by decide +kernel
theorem dX8_playOne_46 : decode cX8_playOne 46 = .ok (.istore_n 2, 1) := by decide +kernel
theorem dX8_playOne_47 : decode cX8_playOne 47 = .ok (.iload_n 2, 1) := by decide +kernel
theorem dX8_playOne_48 : decode cX8_playOne 48 = .ok (.bipush 24, 2) := by decide +kernel
theorem dX8_playOne_50 : decode cX8_playOne 50 = .ok (.if_icmp .ge 49, 3) := by decide +kernel
theorem dX8_playOne_53 : decode cX8_playOne 53 = .ok (.aload_n 0, 1) := by decide +kernel
theorem dX8_playOne_54 : decode cX8_playOne 54 = .ok (.getfield 91, 3) := by decide +kernel
theorem dX8_playOne_57 : decode cX8_playOne 57 = .ok (.iload_n 2, 1) := by decide +kernel
theorem dX8_playOne_58 : decode cX8_playOne 58 = .ok (.iload_n 1, 1) := by decide +kernel
theorem dX8_playOne_59 : decode cX8_playOne 59 = .ok (.ifCond .eq 12, 3) := by decide +kernel
theorem dX8_playOne_62 : decode cX8_playOne 62 = .ok (.aload_n 0, 1) := by decide +kernel
theorem dX8_playOne_63 : decode cX8_playOne 63 = .ok (.getfield 82, 3) := by decide +kernel
theorem dX8_playOne_66 : decode cX8_playOne 66 = .ok (.iload_n 2, 1) := by decide +kernel
theorem dX8_playOne_67 : decode cX8_playOne 67 = .ok (.iaload, 1) := by decide +kernel
theorem dX8_playOne_68 : decode cX8_playOne 68 = .ok (.goto 4, 3) := by decide +kernel
theorem dX8_playOne_71 : decode cX8_playOne 71 = .ok (.iconst 0, 1) := by decide +kernel
theorem dX8_playOne_72 : decode cX8_playOne 72 = .ok (.iastore, 1) := by decide +kernel
theorem dX8_playOne_73 : decode cX8_playOne 73 = .ok (.aload_n 0, 1) := by decide +kernel
theorem dX8_playOne_74 : decode cX8_playOne 74 = .ok (.getfield 94, 3) := by decide +kernel
theorem dX8_playOne_77 : decode cX8_playOne 77 = .ok (.iload_n 2, 1) := by decide +kernel
theorem dX8_playOne_78 : decode cX8_playOne 78 = .ok (.iload_n 1, 1) := by decide +kernel
theorem dX8_playOne_79 : decode cX8_playOne 79 = .ok (.ifCond .eq 12, 3) := by decide +kernel
theorem dX8_playOne_82 : decode cX8_playOne 82 = .ok (.aload_n 0, 1) := by decide +kernel
theorem dX8_playOne_83 : decode cX8_playOne 83 = .ok (.getfield 85, 3) := by decide +kernel
theorem dX8_playOne_86 : decode cX8_playOne 86 = .ok (.iload_n 2, 1) := by decide +kernel
theorem dX8_playOne_87 : decode cX8_playOne 87 = .ok (.iaload, 1) := by decide +kernel
theorem dX8_playOne_88 : decode cX8_playOne 88 = .ok (.goto 4, 3) := by decide +kernel
theorem dX8_playOne_91 : decode cX8_playOne 91 = .ok (.iconst 0, 1) := by decide +kernel
theorem dX8_playOne_92 : decode cX8_playOne 92 = .ok (.iastore, 1) := by decide +kernel
theorem dX8_playOne_93 : decode cX8_playOne 93 = .ok (.iinc 2 1, 3) := by decide +kernel
theorem dX8_playOne_96 : decode cX8_playOne 96 = .ok (.goto (-49), 3) := by decide +kernel
theorem dX8_playOne_99 : decode cX8_playOne 99 = .ok (.iconst 0, 1) := by decide +kernel
theorem dX8_playOne_100 : decode cX8_playOne 100 = .ok (.istore_n 2, 1) := by decide +kernel
theorem dX8_playOne_101 : decode cX8_playOne 101 = .ok (.iload_n 2, 1) := by decide +kernel
theorem dX8_playOne_102 : decode cX8_playOne 102 = .ok (.bipush 6, 2) := by decide +kernel
theorem dX8_playOne_104 : decode cX8_playOne 104 = .ok (.if_icmp .ge 32, 3) := by decide +kernel
theorem dX8_playOne_107 : decode cX8_playOne 107 = .ok (.iload_n 1, 1) := by decide +kernel
theorem dX8_playOne_108 : decode cX8_playOne 108 = .ok (.ifCond .eq 28, 3) := by decide +kernel
theorem dX8_playOne_111 : decode cX8_playOne 111 = .ok (.aload_n 0, 1) := by decide +kernel
theorem dX8_playOne_112 : decode cX8_playOne 112 = .ok (.getfield 63, 3) := by decide +kernel
theorem dX8_playOne_115 : decode cX8_playOne 115 = .ok (.iload_n 2, 1) := by decide +kernel
theorem dX8_playOne_116 : decode cX8_playOne 116 = .ok (.aload_n 0, 1) := by decide +kernel
theorem dX8_playOne_117 : decode cX8_playOne 117 = .ok (.getfield 63, 3) := by decide +kernel
theorem dX8_playOne_120 : decode cX8_playOne 120 = .ok (.iload_n 2, 1) := by decide +kernel
theorem dX8_playOne_121 : decode cX8_playOne 121 = .ok (.iaload, 1) := by decide +kernel
theorem dX8_playOne_122 : decode cX8_playOne 122 = .ok (.aload_n 0, 1) := by decide +kernel
theorem dX8_playOne_123 : decode cX8_playOne 123 = .ok (.getfield 88, 3) := by decide +kernel
theorem dX8_playOne_126 : decode cX8_playOne 126 = .ok (.iload_n 2, 1) := by decide +kernel
theorem dX8_playOne_127 : decode cX8_playOne 127 = .ok (.iaload, 1) := by decide +kernel
theorem dX8_playOne_128 : decode cX8_playOne 128 = .ok (.iadd, 1) := by decide +kernel
theorem dX8_playOne_129 : decode cX8_playOne 129 = .ok (.iastore, 1) := by decide +kernel
theorem dX8_playOne_130 : decode cX8_playOne 130 = .ok (.iinc 2 1, 3) := by decide +kernel
theorem dX8_playOne_133 : decode cX8_playOne 133 = .ok (.goto (-32), 3) := by decide +kernel
theorem dX8_playOne_136 : decode cX8_playOne 136 = .ok (.return_, 1) := by decide +kernel
theorem dX8_shiftReady_0 : decode cX8_shiftReady 0 = .ok (.aload_n 0, 1) := by decide +kernel
theorem dX8_shiftReady_1 : decode cX8_shiftReady 1 = .ok (.dup, 1) := by decide +kernel
theorem dX8_shiftReady_2 : decode cX8_shiftReady 2 = .ok (.getfield 229, 3) := by decide +kernel
theorem dX8_shiftReady_5 : decode cX8_shiftReady 5 = .ok (.iconst 1, 1) := by decide +kernel
theorem dX8_shiftReady_6 : decode cX8_shiftReady 6 = .ok (.isub, 1) := by decide +kernel
theorem dX8_shiftReady_7 : decode cX8_shiftReady 7 = .ok (.putfield 229, 3) := by decide +kernel
theorem dX8_shiftReady_10 : decode cX8_shiftReady 10 = .ok (.iconst 0, 1) := by decide +kernel
theorem dX8_shiftReady_11 : decode cX8_shiftReady 11 = .ok (.istore_n 1, 1) := by decide +kernel
theorem dX8_shiftReady_12 : decode cX8_shiftReady 12 = .ok (.iload_n 1, 1) := by decide +kernel
theorem dX8_shiftReady_13 : decode cX8_shiftReady 13 = .ok (.bipush 72, 2) := by decide +kernel
theorem dX8_shiftReady_15 : decode cX8_shiftReady 15 = .ok (.if_icmp .ge 39, 3) := by decide +kernel
theorem dX8_shiftReady_18 : decode cX8_shiftReady 18 = .ok (.aload_n 0, 1) := by decide +kernel
theorem dX8_shiftReady_19 : decode cX8_shiftReady 19 = .ok (.getfield 82, 3) := by decide +kernel
theorem dX8_shiftReady_22 : decode cX8_shiftReady 22 = .ok (.iload_n 1, 1) := by decide +kernel
theorem dX8_shiftReady_23 : decode cX8_shiftReady 23 = .ok (.aload_n 0, 1) := by decide +kernel
theorem dX8_shiftReady_24 : decode cX8_shiftReady 24 = .ok (.getfield 82, 3) := by decide +kernel
theorem dX8_shiftReady_27 : decode cX8_shiftReady 27 = .ok (.iload_n 1, 1) := by decide +kernel
theorem dX8_shiftReady_28 : decode cX8_shiftReady 28 = .ok (.bipush 24, 2) := by decide +kernel
theorem dX8_shiftReady_30 : decode cX8_shiftReady 30 = .ok (.iadd, 1) := by decide +kernel
theorem dX8_shiftReady_31 : decode cX8_shiftReady 31 = .ok (.iaload, 1) := by decide +kernel
theorem dX8_shiftReady_32 : decode cX8_shiftReady 32 = .ok (.iastore, 1) := by decide +kernel
theorem dX8_shiftReady_33 : decode cX8_shiftReady 33 = .ok (.aload_n 0, 1) := by decide +kernel
theorem dX8_shiftReady_34 : decode cX8_shiftReady 34 = .ok (.getfield 85, 3) := by decide +kernel
theorem dX8_shiftReady_37 : decode cX8_shiftReady 37 = .ok (.iload_n 1, 1) := by decide +kernel
theorem dX8_shiftReady_38 : decode cX8_shiftReady 38 = .ok (.aload_n 0, 1) := by decide +kernel
theorem dX8_shiftReady_39 : decode cX8_shiftReady 39 = .ok (.getfield 85, 3) := by decide +kernel
theorem dX8_shiftReady_42 : decode cX8_shiftReady 42 = .ok (.iload_n 1, 1) := by decide +kernel
theorem dX8_shiftReady_43 : decode cX8_shiftReady 43 = .ok (.bipush 24, 2) := by decide +kernel
theorem dX8_shiftReady_45 : decode cX8_shiftReady 45 = .ok (.iadd, 1) := by decide +kernel
theorem dX8_shiftReady_46 : decode cX8_shiftReady 46 = .ok (.iaload, 1) := by decide +kernel
theorem dX8_shiftReady_47 : decode cX8_shiftReady 47 = .ok (.iastore, 1) := by decide +kernel
theorem dX8_shiftReady_48 : decode cX8_shiftReady 48 = .ok (.iinc 1 1, 3) := by decide +kernel
theorem dX8_shiftReady_51 : decode cX8_shiftReady 51 = .ok (.goto (-39), 3) := by decide +kernel
theorem dX8_shiftReady_54 : decode cX8_shiftReady 54 = .ok (.iconst 0, 1) := by decide +kernel
theorem dX8_shiftReady_55 : decode cX8_shiftReady 55 = .ok (.istore_n 1, 1) := by decide +kernel
theorem dX8_shiftReady_56 : decode cX8_shiftReady 56 = .ok (.iload_n 1, 1) := by decide +kernel
theorem dX8_shiftReady_57 : decode cX8_shiftReady 57 = .ok (.bipush 18, 2) := by decide +kernel
theorem dX8_shiftReady_59 : decode cX8_shiftReady 59 = .ok (.if_icmp .ge 24, 3) := by decide +kernel
theorem dX8_shiftReady_62 : decode cX8_shiftReady 62 = .ok (.aload_n 0, 1) := by decide +kernel
theorem dX8_shiftReady_63 : decode cX8_shiftReady 63 = .ok (.getfield 88, 3) := by decide +kernel
theorem dX8_shiftReady_66 : decode cX8_shiftReady 66 = .ok (.iload_n 1, 1) := by decide +kernel
theorem dX8_shiftReady_67 : decode cX8_shiftReady 67 = .ok (.aload_n 0, 1) := by decide +kernel
theorem dX8_shiftReady_68 : decode cX8_shiftReady 68 = .ok (.getfield 88, 3) := by decide +kernel
theorem dX8_shiftReady_71 : decode cX8_shiftReady 71 = .ok (.iload_n 1, 1) := by decide +kernel
theorem dX8_shiftReady_72 : decode cX8_shiftReady 72 = .ok (.bipush 6, 2) := by decide +kernel
theorem dX8_shiftReady_74 : decode cX8_shiftReady 74 = .ok (.iadd, 1) := by decide +kernel
theorem dX8_shiftReady_75 : decode cX8_shiftReady 75 = .ok (.iaload, 1) := by decide +kernel
theorem dX8_shiftReady_76 : decode cX8_shiftReady 76 = .ok (.iastore, 1) := by decide +kernel
theorem dX8_shiftReady_77 : decode cX8_shiftReady 77 = .ok (.iinc 1 1, 3) := by decide +kernel
theorem dX8_shiftReady_80 : decode cX8_shiftReady 80 = .ok (.goto (-24), 3) := by decide +kernel
theorem dX8_shiftReady_83 : decode cX8_shiftReady 83 = .ok (.return_, 1) := by decide +kernel
theorem dX8_card_0 : decode cX8_card 0 = .ok (.aload_n 0, 1) := by decide +kernel
theorem dX8_card_1 : decode cX8_card 1 = .ok (.iconst 0, 1) := by decide +kernel
theorem dX8_card_2 : decode cX8_card 2 = .ok (.putfield 127, 3) := by decide +kernel
theorem dX8_card_5 : decode cX8_card 5 = .ok (.aload_n 0, 1) := by decide +kernel
theorem dX8_card_6 : decode cX8_card 6 = .ok (.getfield 229, 3) := by decide +kernel
theorem dX8_card_9 : decode cX8_card 9 = .ok (.ifCond .le 7, 3) := by decide +kernel
theorem dX8_card_12 : decode cX8_card 12 = .ok (.iconst 1, 1) := by decide +kernel
theorem dX8_card_13 : decode cX8_card 13 = .ok (.goto 4, 3) := by decide +kernel
theorem dX8_card_16 : decode cX8_card 16 = .ok (.iconst 0, 1) := by decide +kernel
theorem dX8_card_17 : decode cX8_card 17 = .ok (.istore_n 1, 1) := by decide +kernel
theorem dX8_card_18 : decode cX8_card 18 = .ok (.aload_n 0, 1) := by decide +kernel
theorem dX8_card_19 : decode cX8_card 19 = .ok (.iload_n 1, 1) := by decide +kernel
theorem dX8_card_20 : decode cX8_card 20 = .ok (.invokevirtual 245, 3) := by decide +kernel
theorem dX8_card_23 : decode cX8_card 23 = .ok (.iload_n 1, 1) := by decide +kernel
theorem dX8_card_24 : decode cX8_card 24 = .ok (.ifCond .eq 7, 3) := by decide +kernel
theorem dX8_card_27 : decode cX8_card 27 = .ok (.aload_n 0, 1) := by decide +kernel
theorem dX8_card_28 : decode cX8_card 28 = .ok (.invokevirtual 249, 3) := by decide +kernel
theorem dX8_card_31 : decode cX8_card 31 = .ok (.iconst 0, 1) := by decide +kernel
theorem dX8_card_32 : decode cX8_card 32 = .ok (.istore_n 2, 1) := by decide +kernel
theorem dX8_card_33 : decode cX8_card 33 = .ok (.iload_n 2, 1) := by decide +kernel
theorem dX8_card_34 : decode cX8_card 34 = .ok (.bipush 6, 2) := by decide +kernel
theorem dX8_card_36 : decode cX8_card 36 = .ok (.if_icmp .ge 42, 3) := by decide +kernel
theorem dX8_card_39 : decode cX8_card 39 = .ok (.aload_n 0, 1) := by decide +kernel
theorem dX8_card_40 : decode cX8_card 40 = .ok (.getfield 13, 3) := by decide +kernel
theorem dX8_card_43 : decode cX8_card 43 = .ok (.iload_n 2, 1) := by decide +kernel
theorem dX8_card_44 : decode cX8_card 44 = .ok (.baload, 1) := by decide +kernel
theorem dX8_card_45 : decode cX8_card 45 = .ok (.ifCond .eq 27, 3) := by decide +kernel
theorem dX8_card_48 : decode cX8_card 48 = .ok (.aload_n 0, 1) := by decide +kernel
theorem dX8_card_49 : decode cX8_card 49 = .ok (.getfield 17, 3) := by decide +kernel
theorem dX8_card_52 : decode cX8_card 52 = .ok (.iload_n 2, 1) := by decide +kernel
theorem dX8_card_53 : decode cX8_card 53 = .ok (.baload, 1) := by decide +kernel
theorem dX8_card_54 : decode cX8_card 54 = .ok (.ifCond .ne 18, 3) := by decide +kernel
theorem dX8_card_57 : decode cX8_card 57 = .ok (.aload_n 0, 1) := by decide +kernel
theorem dX8_card_58 : decode cX8_card 58 = .ok (.getfield 32, 3) := by decide +kernel
theorem dX8_card_61 : decode cX8_card 61 = .ok (.iload_n 2, 1) := by decide +kernel
theorem dX8_card_62 : decode cX8_card 62 = .ok (.iaload, 1) := by decide +kernel
theorem dX8_card_63 : decode cX8_card 63 = .ok (.iconst 1, 1) := by decide +kernel
theorem dX8_card_64 : decode cX8_card 64 = .ok (.if_icmp .ne 8, 3) := by decide +kernel
theorem dX8_card_67 : decode cX8_card 67 = .ok (.aload_n 0, 1) := by decide +kernel
theorem dX8_card_68 : decode cX8_card 68 = .ok (.iload_n 2, 1) := by decide +kernel
theorem dX8_card_69 : decode cX8_card 69 = .ok (.invokevirtual 252, 3) := by decide +kernel
theorem dX8_card_72 : decode cX8_card 72 = .ok (.iinc 2 1, 3) := by decide +kernel
theorem dX8_card_75 : decode cX8_card 75 = .ok (.goto (-42), 3) := by decide +kernel
theorem dX8_card_78 : decode cX8_card 78 = .ok (.iconst 0, 1) := by decide +kernel
theorem dX8_card_79 : decode cX8_card 79 = .ok (.istore_n 2, 1) := by decide +kernel
theorem dX8_card_80 : decode cX8_card 80 = .ok (.iload_n 2, 1) := by decide +kernel
theorem dX8_card_81 : decode cX8_card 81 = .ok (.bipush 24, 2) := by decide +kernel
theorem dX8_card_83 : decode cX8_card 83 = .ok (.if_icmp .ge 23, 3) := by decide +kernel
theorem dX8_card_86 : decode cX8_card 86 = .ok (.aload_n 0, 1) := by decide +kernel
theorem dX8_card_87 : decode cX8_card 87 = .ok (.getfield 97, 3) := by decide +kernel
theorem dX8_card_90 : decode cX8_card 90 = .ok (.iload_n 2, 1) := by decide +kernel
theorem dX8_card_91 : decode cX8_card 91 = .ok (.iconst 0, 1) := by decide +kernel
theorem dX8_card_92 : decode cX8_card 92 = .ok (.iastore, 1) := by decide +kernel
theorem dX8_card_93 : decode cX8_card 93 = .ok (.aload_n 0, 1) := by decide +kernel
theorem dX8_card_94 : decode cX8_card 94 = .ok (.getfield 100, 3) := by decide +kernel
theorem dX8_card_97 : decode cX8_card 97 = .ok (.iload_n 2, 1) := by decide +kernel
theorem dX8_card_98 : decode cX8_card 98 = .ok (.iconst 0, 1) := by decide +kernel
theorem dX8_card_99 : decode cX8_card 99 = .ok (.iastore, 1) := by decide +kernel
theorem dX8_card_100 : decode cX8_card 100 = .ok (.iinc 2 1, 3) := by decide +kernel
theorem dX8_card_103 : decode cX8_card 103 = .ok (.goto (-23), 3) := by decide +kernel
theorem dX8_card_106 : decode cX8_card 106 = .ok (.iload_n 1, 1) := by decide +kernel
theorem dX8_card_107 : decode cX8_card 107 = .ok (.ireturn, 1) := by decide +kernel
theorem dX8_coming_0 : decode cX8_coming 0 = .ok (.aload_n 0, 1) := by decide +kernel
theorem dX8_coming_1 : decode cX8_coming 1 = .ok (.iload_n 1, 1) := by decide +kernel
theorem dX8_coming_2 : decode cX8_coming 2 = .ok (.iconst 0, 1) := by decide +kernel
theorem dX8_coming_3 : decode cX8_coming 3 = .ok (.bipush 23, 2) := by decide +kernel
theorem dX8_coming_5 : decode cX8_coming 5 = .ok (.invokestatic 130, 3) := by decide +kernel
theorem dX8_coming_8 : decode cX8_coming 8 = .ok (.ifCond .eq 20, 3) := by decide +kernel
theorem dX8_coming_11 : decode cX8_coming 11 = .ok (.iload_n 3, 1) := by decide +kernel
theorem dX8_coming_12 : decode cX8_coming 12 = .ok (.sipush (-32768), 3) := by decide +kernel
theorem dX8_coming_15 : decode cX8_coming 15 = .ok (.sipush 32767, 3) := by decide +kernel
theorem dX8_coming_18 : decode cX8_coming 18 = .ok (.invokestatic 130, 3) := by decide +kernel
theorem dX8_coming_21 : decode cX8_coming 21 = .ok (.ifCond .eq 7, 3) := by decide +kernel
theorem dX8_coming_24 : decode cX8_coming 24 = .ok (.iconst 0, 1) := by decide +kernel
theorem dX8_coming_25 : decode cX8_coming 25 = .ok (.goto 4, 3) := by decide +kernel
theorem dX8_coming_28 : decode cX8_coming 28 = .ok (.iconst 1, 1) := by decide +kernel
theorem dX8_coming_29 : decode cX8_coming 29 = .ok (.invokevirtual 144, 3) := by decide +kernel
theorem dX8_coming_32 : decode cX8_coming 32 = .ok (.ifCond .eq 4, 3) := by decide +kernel
theorem dX8_coming_35 : decode cX8_coming 35 = .ok (.return_, 1) := by decide +kernel
theorem dX8_coming_36 : decode cX8_coming 36 = .ok (.iload_n 2, 1) := by decide +kernel
theorem dX8_coming_37 : decode cX8_coming 37 = .ok (.ifCond .eq 13, 3) := by decide +kernel
theorem dX8_coming_40 : decode cX8_coming 40 = .ok (.aload_n 0, 1) := by decide +kernel
theorem dX8_coming_41 : decode cX8_coming 41 = .ok (.getfield 100, 3) := by decide +kernel
theorem dX8_coming_44 : decode cX8_coming 44 = .ok (.iload_n 1, 1) := by decide +kernel
theorem dX8_coming_45 : decode cX8_coming 45 = .ok (.iload_n 3, 1) := by decide +kernel
theorem dX8_coming_46 : decode cX8_coming 46 = .ok (.iastore, 1) := by decide +kernel
theorem dX8_coming_47 : decode cX8_coming 47 = .ok (.goto 10, 3) := by decide +kernel
theorem dX8_coming_50 : decode cX8_coming 50 = .ok (.aload_n 0, 1) := by decide +kernel
theorem dX8_coming_51 : decode cX8_coming 51 = .ok (.getfield 97, 3) := by decide +kernel
theorem dX8_coming_54 : decode cX8_coming 54 = .ok (.iload_n 1, 1) := by decide +kernel
theorem dX8_coming_55 : decode cX8_coming 55 = .ok (.iload_n 3, 1) := by decide +kernel
theorem dX8_coming_56 : decode cX8_coming 56 = .ok (.iastore, 1) := by decide +kernel
theorem dX8_coming_57 : decode cX8_coming 57 = .ok (.return_, 1) := by decide +kernel
theorem dX8_played_0 : decode cX8_played 0 = .ok (.aload_n 0, 1) := by decide +kernel
theorem dX8_played_1 : decode cX8_played 1 = .ok (.iload_n 1, 1) := by decide +kernel
theorem dX8_played_2 : decode cX8_played 2 = .ok (.iconst 0, 1) := by decide +kernel
theorem dX8_played_3 : decode cX8_played 3 = .ok (.iconst 3, 1) := by decide +kernel
theorem dX8_played_4 : decode cX8_played 4 = .ok (.invokestatic 130, 3) := by decide +kernel
theorem dX8_played_7 : decode cX8_played 7 = .ok (.ifCond .eq 17, 3) := by decide +kernel
theorem dX8_played_10 : decode cX8_played 10 = .ok (.iload_n 2, 1) := by decide +kernel
theorem dX8_played_11 : decode cX8_played 11 = .ok (.iconst 0, 1) := by decide +kernel
theorem dX8_played_12 : decode cX8_played 12 = .ok (.bipush 23, 2) := by decide +kernel
theorem dX8_played_14 : decode cX8_played 14 = .ok (.invokestatic 130, 3) := by decide +kernel
theorem dX8_played_17 : decode cX8_played 17 = .ok (.ifCond .eq 7, 3) := by decide +kernel
theorem dX8_played_20 : decode cX8_played 20 = .ok (.iconst 0, 1) := by decide +kernel
theorem dX8_played_21 : decode cX8_played 21 = .ok (.goto 4, 3) := by decide +kernel
theorem dX8_played_24 : decode cX8_played 24 = .ok (.iconst 1, 1) := by decide +kernel
theorem dX8_played_25 : decode cX8_played 25 = .ok (.invokevirtual 144, 3) := by decide +kernel
theorem dX8_played_28 : decode cX8_played 28 = .ok (.ifCond .eq 5, 3) := by decide +kernel
theorem dX8_played_31 : decode cX8_played 31 = .ok (.iconst 0, 1) := by decide +kernel
theorem dX8_played_32 : decode cX8_played 32 = .ok (.ireturn, 1) := by decide +kernel
theorem dX8_played_33 : decode cX8_played 33 = .ok (.bipush 24, 2) := by decide +kernel
theorem dX8_played_35 : decode cX8_played 35 = .ok (.iload_n 1, 1) := by decide +kernel
theorem dX8_played_36 : decode cX8_played 36 = .ok (.imul, 1) := by decide +kernel
theorem dX8_played_37 : decode cX8_played 37 = .ok (.iload_n 2, 1) := by decide +kernel
theorem dX8_played_38 : decode cX8_played 38 = .ok (.iadd, 1) := by decide +kernel
theorem dX8_played_39 : decode cX8_played 39 = .ok (.istore 4, 2) := by decide +kernel
theorem dX8_played_41 : decode cX8_played 41 = .ok (.iload_n 3, 1) := by decide +kernel
theorem dX8_played_42 : decode cX8_played 42 = .ok (.ifCond .eq 13, 3) := by decide +kernel
theorem dX8_played_45 : decode cX8_played 45 = .ok (.aload_n 0, 1) := by decide +kernel
theorem dX8_played_46 : decode cX8_played 46 = .ok (.getfield 94, 3) := by decide +kernel
theorem dX8_played_49 : decode cX8_played 49 = .ok (.iload 4, 2) := by decide +kernel
theorem dX8_played_51 : decode cX8_played 51 = .ok (.iaload, 1) := by decide +kernel
theorem dX8_played_52 : decode cX8_played 52 = .ok (.goto 10, 3) := by decide +kernel
theorem dX8_played_55 : decode cX8_played 55 = .ok (.aload_n 0, 1) := by decide +kernel
theorem dX8_played_56 : decode cX8_played 56 = .ok (.getfield 91, 3) := by decide +kernel
theorem dX8_played_59 : decode cX8_played 59 = .ok (.iload 4, 2) := by decide +kernel
theorem dX8_played_61 : decode cX8_played 61 = .ok (.iaload, 1) := by decide +kernel
theorem dX8_played_62 : decode cX8_played 62 = .ok (.ireturn, 1) := by decide +kernel
theorem dX8_position_0 : decode cX8_position 0 = .ok (.aload_n 0, 1) := by decide +kernel
theorem dX8_position_1 : decode cX8_position 1 = .ok (.aload_n 0, 1) := by decide +kernel
theorem dX8_position_2 : decode cX8_position 2 = .ok (.iload_n 1, 1) := by decide +kernel
theorem dX8_position_3 : decode cX8_position 3 = .ok (.invokevirtual 147, 3) := by decide +kernel
theorem dX8_position_6 : decode cX8_position 6 = .ok (.ifCond .eq 7, 3) := by decide +kernel
theorem dX8_position_9 : decode cX8_position 9 = .ok (.iconst 0, 1) := by decide +kernel
theorem dX8_position_10 : decode cX8_position 10 = .ok (.goto 4, 3) := by decide +kernel
theorem dX8_position_13 : decode cX8_position 13 = .ok (.iconst 1, 1) := by decide +kernel
theorem dX8_position_14 : decode cX8_position 14 = .ok (.invokevirtual 144, 3) := by decide +kernel
theorem dX8_position_17 : decode cX8_position 17 = .ok (.ifCond .eq 5, 3) := by decide +kernel
theorem dX8_position_20 : decode cX8_position 20 = .ok (.iconst 0, 1) := by decide +kernel
theorem dX8_position_21 : decode cX8_position 21 = .ok (.ireturn, 1) := by decide +kernel
theorem dX8_position_22 : decode cX8_position 22 = .ok (.aload_n 0, 1) := by decide +kernel
theorem dX8_position_23 : decode cX8_position 23 = .ok (.getfield 17, 3) := by decide +kernel
theorem dX8_position_26 : decode cX8_position 26 = .ok (.iload_n 1, 1) := by decide +kernel
theorem dX8_position_27 : decode cX8_position 27 = .ok (.baload, 1) := by decide +kernel
theorem dX8_position_28 : decode cX8_position 28 = .ok (.ifCond .eq 23, 3) := by decide +kernel
theorem dX8_position_31 : decode cX8_position 31 = .ok (.aload_n 0, 1) := by decide +kernel
theorem dX8_position_32 : decode cX8_position 32 = .ok (.getfield 63, 3) := by decide +kernel
theorem dX8_position_35 : decode cX8_position 35 = .ok (.iload_n 1, 1) := by decide +kernel
theorem dX8_position_36 : decode cX8_position 36 = .ok (.iaload, 1) := by decide +kernel
theorem dX8_position_37 : decode cX8_position 37 = .ok (.aload_n 0, 1) := by decide +kernel
theorem dX8_position_38 : decode cX8_position 38 = .ok (.getfield 20, 3) := by decide +kernel
theorem dX8_position_41 : decode cX8_position 41 = .ok (.iload_n 1, 1) := by decide +kernel
theorem dX8_position_42 : decode cX8_position 42 = .ok (.iaload, 1) := by decide +kernel
theorem dX8_position_43 : decode cX8_position 43 = .ok (.ldc 139, 2) := by decide +kernel
theorem dX8_position_45 : decode cX8_position 45 = .ok (.invokestatic 154, 3) := by decide +kernel
theorem dX8_position_48 : decode cX8_position 48 = .ok (.goto 9, 3) := by decide +kernel
theorem dX8_position_51 : decode cX8_position 51 = .ok (.aload_n 0, 1) := by decide +kernel
theorem dX8_position_52 : decode cX8_position 52 = .ok (.getfield 79, 3) := by decide +kernel
theorem dX8_position_55 : decode cX8_position 55 = .ok (.iload_n 1, 1) := by decide +kernel
theorem dX8_position_56 : decode cX8_position 56 = .ok (.iaload, 1) := by decide +kernel
theorem dX8_position_57 : decode cX8_position 57 = .ok (.ireturn, 1) := by decide +kernel
theorem dX8_late_0 : decode cX8_late 0 = .ok (.aload_n 0, 1) := by decide +kernel
theorem dX8_late_1 : decode cX8_late 1 = .ok (.aload_n 0, 1) := by decide +kernel
theorem dX8_late_2 : decode cX8_late 2 = .ok (.iload_n 1, 1) := by decide +kernel
theorem dX8_late_3 : decode cX8_late 3 = .ok (.invokevirtual 147, 3) := by decide +kernel
theorem dX8_late_6 : decode cX8_late 6 = .ok (.ifCond .eq 7, 3) := by decide +kernel
theorem dX8_late_9 : decode cX8_late 9 = .ok (.iconst 0, 1) := by decide +kernel
theorem dX8_late_10 : decode cX8_late 10 = .ok (.goto 4, 3) := by decide +kernel
theorem dX8_late_13 : decode cX8_late 13 = .ok (.iconst 1, 1) := by decide +kernel
theorem dX8_late_14 : decode cX8_late 14 = .ok (.invokevirtual 144, 3) := by decide +kernel
theorem dX8_late_17 : decode cX8_late 17 = .ok (.ifCond .eq 7, 3) := by decide +kernel
theorem dX8_late_20 : decode cX8_late 20 = .ok (.iconst 0, 1) := by decide +kernel
theorem dX8_late_21 : decode cX8_late 21 = .ok (.goto 9, 3) := by decide +kernel
theorem dX8_late_24 : decode cX8_late 24 = .ok (.aload_n 0, 1) := by decide +kernel
theorem dX8_late_25 : decode cX8_late 25 = .ok (.getfield 35, 3) := by decide +kernel
theorem dX8_late_28 : decode cX8_late 28 = .ok (.iload_n 1, 1) := by decide +kernel
theorem dX8_late_29 : decode cX8_late 29 = .ok (.iaload, 1) := by decide +kernel
theorem dX8_late_30 : decode cX8_late 30 = .ok (.ireturn, 1) := by decide +kernel
theorem dX8_level_0 : decode cX8_level 0 = .ok (.aload_n 0, 1) := by decide +kernel
theorem dX8_level_1 : decode cX8_level 1 = .ok (.aload_n 0, 1) := by decide +kernel
theorem dX8_level_2 : decode cX8_level 2 = .ok (.iload_n 1, 1) := by decide +kernel
theorem dX8_level_3 : decode cX8_level 3 = .ok (.invokevirtual 147, 3) := by decide +kernel
theorem dX8_level_6 : decode cX8_level 6 = .ok (.ifCond .eq 16, 3) := by decide +kernel
theorem dX8_level_9 : decode cX8_level 9 = .ok (.aload_n 0, 1) := by decide +kernel
theorem dX8_level_10 : decode cX8_level 10 = .ok (.getfield 17, 3) := by decide +kernel
theorem dX8_level_13 : decode cX8_level 13 = .ok (.iload_n 1, 1) := by decide +kernel
theorem dX8_level_14 : decode cX8_level 14 = .ok (.baload, 1) := by decide +kernel
theorem dX8_level_15 : decode cX8_level 15 = .ok (.ifCond .eq 7, 3) := by decide +kernel
theorem dX8_level_18 : decode cX8_level 18 = .ok (.iconst 0, 1) := by decide +kernel
theorem dX8_level_19 : decode cX8_level 19 = .ok (.goto 4, 3) := by decide +kernel
theorem dX8_level_22 : decode cX8_level 22 = .ok (.iconst 1, 1) := by decide +kernel
theorem dX8_level_23 : decode cX8_level 23 = .ok (.invokevirtual 144, 3) := by decide +kernel
theorem dX8_level_26 : decode cX8_level 26 = .ok (.ifCond .eq 7, 3) := by decide +kernel
theorem dX8_level_29 : decode cX8_level 29 = .ok (.dconst 0, 1) := by decide +kernel
theorem dX8_level_30 : decode cX8_level 30 = .ok (.goto 9, 3) := by decide +kernel
theorem dX8_level_33 : decode cX8_level 33 = .ok (.aload_n 0, 1) := by decide +kernel
theorem dX8_level_34 : decode cX8_level 34 = .ok (.getfield 66, 3) := by decide +kernel
theorem dX8_level_37 : decode cX8_level 37 = .ok (.iload_n 1, 1) := by decide +kernel
theorem dX8_level_38 : decode cX8_level 38 = .ok (.daload, 1) := by decide +kernel
theorem dX8_level_39 : decode cX8_level 39 = .ok (.dreturn, 1) := by decide +kernel
theorem dX8_clipped_0 : decode cX8_clipped 0 = .ok (.aload_n 0, 1) := by decide +kernel
theorem dX8_clipped_1 : decode cX8_clipped 1 = .ok (.iconst 0, 1) := by decide +kernel
theorem dX8_clipped_2 : decode cX8_clipped 2 = .ok (.putfield 127, 3) := by decide +kernel
theorem dX8_clipped_5 : decode cX8_clipped 5 = .ok (.aload_n 0, 1) := by decide +kernel
theorem dX8_clipped_6 : decode cX8_clipped 6 = .ok (.getfield 215, 3) := by decide +kernel
theorem dX8_clipped_9 : decode cX8_clipped 9 = .ok (.ireturn, 1) := by decide +kernel
theorem dX8_limit_0 : decode cX8_limit 0 = .ok (.aload_n 0, 1) := by decide +kernel
theorem dX8_limit_1 : decode cX8_limit 1 = .ok (.iconst 0, 1) := by decide +kernel
theorem dX8_limit_2 : decode cX8_limit 2 = .ok (.putfield 127, 3) := by decide +kernel
theorem dX8_limit_5 : decode cX8_limit 5 = .ok (.aload_n 0, 1) := by decide +kernel
theorem dX8_limit_6 : decode cX8_limit 6 = .ok (.getfield 103, 3) := by decide +kernel
theorem dX8_limit_9 : decode cX8_limit 9 = .ok (.istore_n 2, 1) := by decide +kernel
theorem dX8_limit_10 : decode cX8_limit 10 = .ok (.aload_n 0, 1) := by decide +kernel
theorem dX8_limit_11 : decode cX8_limit 11 = .ok (.iload_n 1, 1) := by decide +kernel
theorem dX8_limit_12 : decode cX8_limit 12 = .ok (.putfield 103, 3) := by decide +kernel
theorem dX8_limit_15 : decode cX8_limit 15 = .ok (.iload_n 2, 1) := by decide +kernel
theorem dX8_limit_16 : decode cX8_limit 16 = .ok (.ireturn, 1) := by decide +kernel
theorem dX8_value_0 : decode cX8_value 0 = .ok (.aload_n 0, 1) := by decide +kernel
theorem dX8_value_1 : decode cX8_value 1 = .ok (.iconst 0, 1) := by decide +kernel
theorem dX8_value_2 : decode cX8_value 2 = .ok (.putfield 127, 3) := by decide +kernel
theorem dX8_value_5 : decode cX8_value 5 = .ok (.aload_n 0, 1) := by decide +kernel
theorem dX8_value_6 : decode cX8_value 6 = .ok (.getfield 107, 3) := by decide +kernel
theorem dX8_value_9 : decode cX8_value 9 = .ok (.ireturn, 1) := by decide +kernel
theorem dX8_tap_0 : decode cX8_tap 0 = .ok (.aload_n 0, 1) := by decide +kernel
theorem dX8_tap_1 : decode cX8_tap 1 = .ok (.iload_n 1, 1) := by decide +kernel
theorem dX8_tap_2 : decode cX8_tap 2 = .ok (.iconst 0, 1) := by decide +kernel
theorem dX8_tap_3 : decode cX8_tap 3 = .ok (.bipush 31, 2) := by decide +kernel
theorem dX8_tap_5 : decode cX8_tap 5 = .ok (.invokestatic 130, 3) := by decide +kernel
theorem dX8_tap_8 : decode cX8_tap 8 = .ok (.ifCond .eq 17, 3) := by decide +kernel
theorem dX8_tap_11 : decode cX8_tap 11 = .ok (.iload_n 2, 1) := by decide +kernel
theorem dX8_tap_12 : decode cX8_tap 12 = .ok (.iconst 0, 1) := by decide +kernel
theorem dX8_tap_13 : decode cX8_tap 13 = .ok (.bipush 15, 2) := by decide +kernel
theorem dX8_tap_15 : decode cX8_tap 15 = .ok (.invokestatic 130, 3) := by decide +kernel
theorem dX8_tap_18 : decode cX8_tap 18 = .ok (.ifCond .eq 7, 3) := by decide +kernel
theorem dX8_tap_21 : decode cX8_tap 21 = .ok (.iconst 0, 1) := by decide +kernel
theorem dX8_tap_22 : decode cX8_tap 22 = .ok (.goto 4, 3) := by decide +kernel
theorem dX8_tap_25 : decode cX8_tap 25 = .ok (.iconst 1, 1) := by decide +kernel
theorem dX8_tap_26 : decode cX8_tap 26 = .ok (.invokevirtual 144, 3) := by decide +kernel
theorem dX8_tap_29 : decode cX8_tap 29 = .ok (.ifCond .eq 7, 3) := by decide +kernel
theorem dX8_tap_32 : decode cX8_tap 32 = .ok (.iconst 0, 1) := by decide +kernel
theorem dX8_tap_33 : decode cX8_tap 33 = .ok (.goto 14, 3) := by decide +kernel
theorem dX8_tap_36 : decode cX8_tap 36 = .ok (.aload_n 0, 1) := by decide +kernel
theorem dX8_tap_37 : decode cX8_tap 37 = .ok (.getfield 7, 3) := by decide +kernel
theorem dX8_tap_40 : decode cX8_tap 40 = .ok (.bipush 16, 2) := by decide +kernel
theorem dX8_tap_42 : decode cX8_tap 42 = .ok (.iload_n 1, 1) := by decide +kernel
theorem dX8_tap_43 : decode cX8_tap 43 = .ok (.imul, 1) := by decide +kernel
theorem dX8_tap_44 : decode cX8_tap 44 = .ok (.iload_n 2, 1) := by decide +kernel
theorem dX8_tap_45 : decode cX8_tap 45 = .ok (.iadd, 1) := by decide +kernel
theorem dX8_tap_46 : decode cX8_tap 46 = .ok (.iaload, 1) := by decide +kernel
theorem dX8_tap_47 : decode cX8_tap 47 = .ok (.ireturn, 1) := by decide +kernel
theorem dJ9_floorDiv_7cf53_0 : decode cJ9_floorDiv_7cf53 0 = .ok (.iload_n 0, 1) := by decide +kernel
theorem dJ9_floorDiv_7cf53_1 : decode cJ9_floorDiv_7cf53 1 = .ok (.iload_n 1, 1) := by decide +kernel
theorem dJ9_floorDiv_7cf53_2 : decode cJ9_floorDiv_7cf53 2 = .ok (.idiv, 1) := by decide +kernel
theorem dJ9_floorDiv_7cf53_3 : decode cJ9_floorDiv_7cf53 3 = .ok (.istore_n 2, 1) := by decide +kernel
theorem dJ9_floorDiv_7cf53_4 : decode cJ9_floorDiv_7cf53 4 = .ok (.iload_n 0, 1) := by decide +kernel
theorem dJ9_floorDiv_7cf53_5 : decode cJ9_floorDiv_7cf53 5 = .ok (.iload_n 1, 1) := by decide +kernel
theorem dJ9_floorDiv_7cf53_6 : decode cJ9_floorDiv_7cf53 6 = .ok (.ixor, 1) := by decide +kernel
theorem dJ9_floorDiv_7cf53_7 : decode cJ9_floorDiv_7cf53 7 = .ok (.ifCond .ge 14, 3) := by decide +kernel
theorem dJ9_floorDiv_7cf53_10 : decode cJ9_floorDiv_7cf53 10 = .ok (.iload_n 2, 1) := by decide +kernel
theorem dJ9_floorDiv_7cf53_11 : decode cJ9_floorDiv_7cf53 11 = .ok (.iload_n 1, 1) := by decide +kernel
theorem dJ9_floorDiv_7cf53_12 : decode cJ9_floorDiv_7cf53 12 = .ok (.imul, 1) := by decide +kernel
theorem dJ9_floorDiv_7cf53_13 : decode cJ9_floorDiv_7cf53 13 = .ok (.iload_n 0, 1) := by decide +kernel
theorem dJ9_floorDiv_7cf53_14 : decode cJ9_floorDiv_7cf53 14 = .ok (.if_icmp .eq 7, 3) := by decide +kernel
theorem dJ9_floorDiv_7cf53_17 : decode cJ9_floorDiv_7cf53 17 = .ok (.iload_n 2, 1) := by decide +kernel
theorem dJ9_floorDiv_7cf53_18 : decode cJ9_floorDiv_7cf53 18 = .ok (.iconst 1, 1) := by decide +kernel
theorem dJ9_floorDiv_7cf53_19 : decode cJ9_floorDiv_7cf53 19 = .ok (.isub, 1) := by decide +kernel
theorem dJ9_floorDiv_7cf53_20 : decode cJ9_floorDiv_7cf53 20 = .ok (.ireturn, 1) := by decide +kernel
theorem dJ9_floorDiv_7cf53_21 : decode cJ9_floorDiv_7cf53 21 = .ok (.iload_n 2, 1) := by decide +kernel
theorem dJ9_floorDiv_7cf53_22 : decode cJ9_floorDiv_7cf53 22 = .ok (.ireturn, 1) := by decide +kernel
theorem dJ9_floorDiv_f86c9_0 : decode cJ9_floorDiv_f86c9 0 = .ok (.lload_n 0, 1) := by decide +kernel
theorem dJ9_floorDiv_f86c9_1 : decode cJ9_floorDiv_f86c9 1 = .ok (.lload_n 2, 1) := by decide +kernel
theorem dJ9_floorDiv_f86c9_2 : decode cJ9_floorDiv_f86c9 2 = .ok (.ldiv, 1) := by decide +kernel
theorem dJ9_floorDiv_f86c9_3 : decode cJ9_floorDiv_f86c9 3 = .ok (.lstore 4, 2) := by decide +kernel
theorem dJ9_floorDiv_f86c9_5 : decode cJ9_floorDiv_f86c9 5 = .ok (.lload_n 0, 1) := by decide +kernel
theorem dJ9_floorDiv_f86c9_6 : decode cJ9_floorDiv_f86c9 6 = .ok (.lload_n 2, 1) := by decide +kernel
theorem dJ9_floorDiv_f86c9_7 : decode cJ9_floorDiv_f86c9 7 = .ok (.lxor, 1) := by decide +kernel
theorem dJ9_floorDiv_f86c9_8 : decode cJ9_floorDiv_f86c9 8 = .ok (.lconst 0, 1) := by decide +kernel
theorem dJ9_floorDiv_f86c9_9 : decode cJ9_floorDiv_f86c9 9 = .ok (.lcmp, 1) := by decide +kernel
theorem dJ9_floorDiv_f86c9_10 : decode cJ9_floorDiv_f86c9 10 = .ok (.ifCond .ge 17, 3) := by decide +kernel
theorem dJ9_floorDiv_f86c9_13 : decode cJ9_floorDiv_f86c9 13 = .ok (.lload 4, 2) := by decide +kernel
theorem dJ9_floorDiv_f86c9_15 : decode cJ9_floorDiv_f86c9 15 = .ok (.lload_n 2, 1) := by decide +kernel
theorem dJ9_floorDiv_f86c9_16 : decode cJ9_floorDiv_f86c9 16 = .ok (.lmul, 1) := by decide +kernel
theorem dJ9_floorDiv_f86c9_17 : decode cJ9_floorDiv_f86c9 17 = .ok (.lload_n 0, 1) := by decide +kernel
theorem dJ9_floorDiv_f86c9_18 : decode cJ9_floorDiv_f86c9 18 = .ok (.lcmp, 1) := by decide +kernel
theorem dJ9_floorDiv_f86c9_19 : decode cJ9_floorDiv_f86c9 19 = .ok (.ifCond .eq 8, 3) := by decide +kernel
theorem dJ9_floorDiv_f86c9_22 : decode cJ9_floorDiv_f86c9 22 = .ok (.lload 4, 2) := by decide +kernel
theorem dJ9_floorDiv_f86c9_24 : decode cJ9_floorDiv_f86c9 24 = .ok (.lconst 1, 1) := by decide +kernel
theorem dJ9_floorDiv_f86c9_25 : decode cJ9_floorDiv_f86c9 25 = .ok (.lsub, 1) := by decide +kernel
theorem dJ9_floorDiv_f86c9_26 : decode cJ9_floorDiv_f86c9 26 = .ok (.lreturn, 1) := by decide +kernel
theorem dJ9_floorDiv_f86c9_27 : decode cJ9_floorDiv_f86c9 27 = .ok (.lload 4, 2) := by decide +kernel
theorem dJ9_floorDiv_f86c9_29 : decode cJ9_floorDiv_f86c9 29 = .ok (.lreturn, 1) := by decide +kernel
theorem dJ9_floorMod_7cf53_0 : decode cJ9_floorMod_7cf53 0 = .ok (.iload_n 0, 1) := by decide +kernel
theorem dJ9_floorMod_7cf53_1 : decode cJ9_floorMod_7cf53 1 = .ok (.iload_n 1, 1) := by decide +kernel
theorem dJ9_floorMod_7cf53_2 : decode cJ9_floorMod_7cf53 2 = .ok (.irem, 1) := by decide +kernel
theorem dJ9_floorMod_7cf53_3 : decode cJ9_floorMod_7cf53 3 = .ok (.istore_n 2, 1) := by decide +kernel
theorem dJ9_floorMod_7cf53_4 : decode cJ9_floorMod_7cf53 4 = .ok (.iload_n 0, 1) := by decide +kernel
theorem dJ9_floorMod_7cf53_5 : decode cJ9_floorMod_7cf53 5 = .ok (.iload_n 1, 1) := by decide +kernel
theorem dJ9_floorMod_7cf53_6 : decode cJ9_floorMod_7cf53 6 = .ok (.ixor, 1) := by decide +kernel
theorem dJ9_floorMod_7cf53_7 : decode cJ9_floorMod_7cf53 7 = .ok (.ifCond .ge 11, 3) := by decide +kernel
theorem dJ9_floorMod_7cf53_10 : decode cJ9_floorMod_7cf53 10 = .ok (.iload_n 2, 1) := by decide +kernel
theorem dJ9_floorMod_7cf53_11 : decode cJ9_floorMod_7cf53 11 = .ok (.ifCond .eq 7, 3) := by decide +kernel
theorem dJ9_floorMod_7cf53_14 : decode cJ9_floorMod_7cf53 14 = .ok (.iload_n 2, 1) := by decide +kernel
theorem dJ9_floorMod_7cf53_15 : decode cJ9_floorMod_7cf53 15 = .ok (.iload_n 1, 1) := by decide +kernel
theorem dJ9_floorMod_7cf53_16 : decode cJ9_floorMod_7cf53 16 = .ok (.iadd, 1) := by decide +kernel
theorem dJ9_floorMod_7cf53_17 : decode cJ9_floorMod_7cf53 17 = .ok (.ireturn, 1) := by decide +kernel
theorem dJ9_floorMod_7cf53_18 : decode cJ9_floorMod_7cf53 18 = .ok (.iload_n 2, 1) := by decide +kernel
theorem dJ9_floorMod_7cf53_19 : decode cJ9_floorMod_7cf53 19 = .ok (.ireturn, 1) := by decide +kernel
theorem dJ9_abs_0f7a4_0 : decode cJ9_abs_0f7a4 0 = .ok (.iload_n 0, 1) := by decide +kernel
theorem dJ9_abs_0f7a4_1 : decode cJ9_abs_0f7a4 1 = .ok (.ifCond .ge 8, 3) := by decide +kernel
theorem dJ9_abs_0f7a4_4 : decode cJ9_abs_0f7a4 4 = .ok (.iload_n 0, 1) := by decide +kernel
theorem dJ9_abs_0f7a4_5 : decode cJ9_abs_0f7a4 5 = .ok (.ineg, 1) := by decide +kernel
theorem dJ9_abs_0f7a4_6 : decode cJ9_abs_0f7a4 6 = .ok (.goto 4, 3) := by decide +kernel
theorem dJ9_abs_0f7a4_9 : decode cJ9_abs_0f7a4 9 = .ok (.iload_n 0, 1) := by decide +kernel
theorem dJ9_abs_0f7a4_10 : decode cJ9_abs_0f7a4 10 = .ok (.ireturn, 1) := by decide +kernel
theorem dJ9_max_7cf53_0 : decode cJ9_max_7cf53 0 = .ok (.iload_n 0, 1) := by decide +kernel
theorem dJ9_max_7cf53_1 : decode cJ9_max_7cf53 1 = .ok (.iload_n 1, 1) := by decide +kernel
theorem dJ9_max_7cf53_2 : decode cJ9_max_7cf53 2 = .ok (.if_icmp .lt 7, 3) := by decide +kernel
theorem dJ9_max_7cf53_5 : decode cJ9_max_7cf53 5 = .ok (.iload_n 0, 1) := by decide +kernel
theorem dJ9_max_7cf53_6 : decode cJ9_max_7cf53 6 = .ok (.goto 4, 3) := by decide +kernel
theorem dJ9_max_7cf53_9 : decode cJ9_max_7cf53 9 = .ok (.iload_n 1, 1) := by decide +kernel
theorem dJ9_max_7cf53_10 : decode cJ9_max_7cf53 10 = .ok (.ireturn, 1) := by decide +kernel
theorem dJ9_min_7cf53_0 : decode cJ9_min_7cf53 0 = .ok (.iload_n 0, 1) := by decide +kernel
theorem dJ9_min_7cf53_1 : decode cJ9_min_7cf53 1 = .ok (.iload_n 1, 1) := by decide +kernel
theorem dJ9_min_7cf53_2 : decode cJ9_min_7cf53 2 = .ok (.if_icmp .gt 7, 3) := by decide +kernel
theorem dJ9_min_7cf53_5 : decode cJ9_min_7cf53 5 = .ok (.iload_n 0, 1) := by decide +kernel
theorem dJ9_min_7cf53_6 : decode cJ9_min_7cf53 6 = .ok (.goto 4, 3) := by decide +kernel
theorem dJ9_min_7cf53_9 : decode cJ9_min_7cf53 9 = .ok (.iload_n 1, 1) := by decide +kernel
theorem dJ9_min_7cf53_10 : decode cJ9_min_7cf53 10 = .ok (.ireturn, 1) := by decide +kernel
theorem dJ7_fill_53178_0 : decode cJ7_fill_53178 0 = .ok (.iconst 0, 1) := by decide +kernel
theorem dJ7_fill_53178_1 : decode cJ7_fill_53178 1 = .ok (.istore_n 2, 1) := by decide +kernel
theorem dJ7_fill_53178_2 : decode cJ7_fill_53178 2 = .ok (.aload_n 0, 1) := by decide +kernel
theorem dJ7_fill_53178_3 : decode cJ7_fill_53178 3 = .ok (.arraylength, 1) := by decide +kernel
theorem dJ7_fill_53178_4 : decode cJ7_fill_53178 4 = .ok (.istore_n 3, 1) := by decide +kernel
theorem dJ7_fill_53178_5 : decode cJ7_fill_53178 5 = .ok (.iload_n 2, 1) := by decide +kernel
theorem dJ7_fill_53178_6 : decode cJ7_fill_53178 6 = .ok (.iload_n 3, 1) := by decide +kernel
theorem dJ7_fill_53178_7 : decode cJ7_fill_53178 7 = .ok (.if_icmp .ge 13, 3) := by decide +kernel
theorem dJ7_fill_53178_10 : decode cJ7_fill_53178 10 = .ok (.aload_n 0, 1) := by decide +kernel
theorem dJ7_fill_53178_11 : decode cJ7_fill_53178 11 = .ok (.iload_n 2, 1) := by decide +kernel
theorem dJ7_fill_53178_12 : decode cJ7_fill_53178 12 = .ok (.iload_n 1, 1) := by decide +kernel
theorem dJ7_fill_53178_13 : decode cJ7_fill_53178 13 = .ok (.iastore, 1) := by decide +kernel
theorem dJ7_fill_53178_14 : decode cJ7_fill_53178 14 = .ok (.iinc 2 1, 3) := by decide +kernel
theorem dJ7_fill_53178_17 : decode cJ7_fill_53178 17 = .ok (.goto (-12), 3) := by decide +kernel
theorem dJ7_fill_53178_20 : decode cJ7_fill_53178 20 = .ok (.return_, 1) := by decide +kernel
theorem dL_open_0 : decode cL_open 0 = .ok (.aload 5, 2) := by decide +kernel
theorem dL_open_2 : decode cL_open 2 = .ok (.iconst 0, 1) := by decide +kernel
theorem dL_open_3 : decode cL_open 3 = .ok (.aload_n 0, 1) := by decide +kernel
theorem dL_open_4 : decode cL_open 4 = .ok (.iload_n 1, 1) := by decide +kernel
theorem dL_open_5 : decode cL_open 5 = .ok (.iload_n 2, 1) := by decide +kernel
theorem dL_open_6 : decode cL_open 6 = .ok (.iload_n 3, 1) := by decide +kernel
theorem dL_open_7 : decode cL_open 7 = .ok (.iload 4, 2) := by decide +kernel
theorem dL_open_9 : decode cL_open 9 = .ok (.invokevirtual 7, 3) := by decide +kernel
theorem dL_open_12 : decode cL_open 12 = .ok (.i2l, 1) := by decide +kernel
theorem dL_open_13 : decode cL_open 13 = .ok (.lastore, 1) := by decide +kernel
theorem dL_open_14 : decode cL_open 14 = .ok (.goto 11, 3) := by decide +kernel
theorem dL_open_17 : decode cL_open 17 = .ok (.astore 6, 2) := by decide +kernel
theorem dL_open_19 : decode cL_open 19 = .ok (.iconst 1, 1) := by decide +kernel
theorem dL_open_20 : decode cL_open 20 = .ok (.ireturn, 1) := by decide +kernel
theorem dL_open_21 : decode cL_open 21 = .ok (.astore 6, 2) := by decide +kernel
theorem dL_open_23 : decode cL_open 23 = .ok (.iconst 2, 1) := by decide +kernel
theorem dL_open_24 : decode cL_open 24 = .ok (.ireturn, 1) := by decide +kernel
theorem dL_open_25 : decode cL_open 25 = .ok (.iconst 0, 1) := by decide +kernel
theorem dL_open_26 : decode cL_open 26 = .ok (.ireturn, 1) := by decide +kernel
theorem dL_close_0 : decode cL_close 0 = .ok (.aload_n 0, 1) := by decide +kernel
theorem dL_close_1 : decode cL_close 1 = .ok (.iload_n 1, 1) := by decide +kernel
theorem dL_close_2 : decode cL_close 2 = .ok (.invokevirtual 17, 3) := by decide +kernel
theorem dL_close_5 : decode cL_close 5 = .ok (.goto 6, 3) := by decide +kernel
theorem dL_close_8 : decode cL_close 8 = .ok (.astore_n 2, 1) := by decide +kernel
theorem dL_close_9 : decode cL_close 9 = .ok (.iconst 1, 1) := by decide +kernel
theorem dL_close_10 : decode cL_close 10 = .ok (.ireturn, 1) := by decide +kernel
theorem dL_close_11 : decode cL_close 11 = .ok (.iconst 0, 1) := by decide +kernel
theorem dL_close_12 : decode cL_close 12 = .ok (.ireturn, 1) := by decide +kernel
theorem dL_gain_0 : decode cL_gain 0 = .ok (.aload_n 0, 1) := by decide +kernel
theorem dL_gain_1 : decode cL_gain 1 = .ok (.iload_n 1, 1) := by decide +kernel
theorem dL_gain_2 : decode cL_gain 2 = .ok (.dload_n 2, 1) := by decide +kernel
theorem dL_gain_3 : decode cL_gain 3 = .ok (.invokevirtual 21, 3) := by decide +kernel
theorem dL_gain_6 : decode cL_gain 6 = .ok (.goto 7, 3) := by decide +kernel
theorem dL_gain_9 : decode cL_gain 9 = .ok (.astore 4, 2) := by decide +kernel
theorem dL_gain_11 : decode cL_gain 11 = .ok (.iconst 1, 1) := by decide +kernel
theorem dL_gain_12 : decode cL_gain 12 = .ok (.ireturn, 1) := by decide +kernel
theorem dL_gain_13 : decode cL_gain 13 = .ok (.iconst 0, 1) := by decide +kernel
theorem dL_gain_14 : decode cL_gain 14 = .ok (.ireturn, 1) := by decide +kernel
theorem dL_start_0 : decode cL_start 0 = .ok (.aload_n 0, 1) := by decide +kernel
theorem dL_start_1 : decode cL_start 1 = .ok (.iload_n 1, 1) := by decide +kernel
theorem dL_start_2 : decode cL_start 2 = .ok (.invokevirtual 25, 3) := by decide +kernel
theorem dL_start_5 : decode cL_start 5 = .ok (.goto 9, 3) := by decide +kernel
theorem dL_start_8 : decode cL_start 8 = .ok (.astore_n 2, 1) := by decide +kernel
theorem dL_start_9 : decode cL_start 9 = .ok (.iconst 1, 1) := by decide +kernel
theorem dL_start_10 : decode cL_start 10 = .ok (.ireturn, 1) := by decide +kernel
theorem dL_start_11 : decode cL_start 11 = .ok (.astore_n 2, 1) := by decide +kernel
theorem dL_start_12 : decode cL_start 12 = .ok (.iconst 2, 1) := by decide +kernel
theorem dL_start_13 : decode cL_start 13 = .ok (.ireturn, 1) := by decide +kernel
theorem dL_start_14 : decode cL_start 14 = .ok (.iconst 0, 1) := by decide +kernel
theorem dL_start_15 : decode cL_start 15 = .ok (.ireturn, 1) := by decide +kernel
theorem dL_pause_0 : decode cL_pause 0 = .ok (.aload_n 0, 1) := by decide +kernel
theorem dL_pause_1 : decode cL_pause 1 = .ok (.iload_n 1, 1) := by decide +kernel
theorem dL_pause_2 : decode cL_pause 2 = .ok (.invokevirtual 28, 3) := by decide +kernel
theorem dL_pause_5 : decode cL_pause 5 = .ok (.goto 9, 3) := by decide +kernel
theorem dL_pause_8 : decode cL_pause 8 = .ok (.astore_n 2, 1) := by decide +kernel
theorem dL_pause_9 : decode cL_pause 9 = .ok (.iconst 1, 1) := by decide +kernel
theorem dL_pause_10 : decode cL_pause 10 = .ok (.ireturn, 1) := by decide +kernel
theorem dL_pause_11 : decode cL_pause 11 = .ok (.astore_n 2, 1) := by decide +kernel
theorem dL_pause_12 : decode cL_pause 12 = .ok (.iconst 2, 1) := by decide +kernel
theorem dL_pause_13 : decode cL_pause 13 = .ok (.ireturn, 1) := by decide +kernel
theorem dL_pause_14 : decode cL_pause 14 = .ok (.iconst 0, 1) := by decide +kernel
theorem dL_pause_15 : decode cL_pause 15 = .ok (.ireturn, 1) := by decide +kernel
theorem dL_drain_0 : decode cL_drain 0 = .ok (.aload_n 0, 1) := by decide +kernel
theorem dL_drain_1 : decode cL_drain 1 = .ok (.iload_n 1, 1) := by decide +kernel
theorem dL_drain_2 : decode cL_drain 2 = .ok (.invokevirtual 31, 3) := by decide +kernel
theorem dL_drain_5 : decode cL_drain 5 = .ok (.goto 9, 3) := by decide +kernel
theorem dL_drain_8 : decode cL_drain 8 = .ok (.astore_n 2, 1) := by decide +kernel
theorem dL_drain_9 : decode cL_drain 9 = .ok (.iconst 1, 1) := by decide +kernel
theorem dL_drain_10 : decode cL_drain 10 = .ok (.ireturn, 1) := by decide +kernel
theorem dL_drain_11 : decode cL_drain 11 = .ok (.astore_n 2, 1) := by decide +kernel
theorem dL_drain_12 : decode cL_drain 12 = .ok (.iconst 2, 1) := by decide +kernel
theorem dL_drain_13 : decode cL_drain 13 = .ok (.ireturn, 1) := by decide +kernel
theorem dL_drain_14 : decode cL_drain 14 = .ok (.iconst 0, 1) := by decide +kernel
theorem dL_drain_15 : decode cL_drain 15 = .ok (.ireturn, 1) := by decide +kernel
theorem dL_state_0 : decode cL_state 0 = .ok (.aload_n 2, 1) := by decide +kernel
theorem dL_state_1 : decode cL_state 1 = .ok (.iconst 0, 1) := by decide +kernel
theorem dL_state_2 : decode cL_state 2 = .ok (.aload_n 0, 1) := by decide +kernel
theorem dL_state_3 : decode cL_state 3 = .ok (.iload_n 1, 1) := by decide +kernel
theorem dL_state_4 : decode cL_state 4 = .ok (.invokevirtual 34, 3) := by decide +kernel
theorem dL_state_7 : decode cL_state 7 = .ok (.i2l, 1) := by decide +kernel
theorem dL_state_8 : decode cL_state 8 = .ok (.lastore, 1) := by decide +kernel
theorem dL_state_9 : decode cL_state 9 = .ok (.goto 6, 3) := by decide +kernel
theorem dL_state_12 : decode cL_state 12 = .ok (.astore_n 3, 1) := by decide +kernel
theorem dL_state_13 : decode cL_state 13 = .ok (.iconst 1, 1) := by decide +kernel
theorem dL_state_14 : decode cL_state 14 = .ok (.ireturn, 1) := by decide +kernel
theorem dL_state_15 : decode cL_state 15 = .ok (.iconst 0, 1) := by decide +kernel
theorem dL_state_16 : decode cL_state 16 = .ok (.ireturn, 1) := by decide +kernel
theorem dL_write_0 : decode cL_write 0 = .ok (.aload_n 3, 1) := by decide +kernel
theorem dL_write_1 : decode cL_write 1 = .ok (.iconst 0, 1) := by decide +kernel
theorem dL_write_2 : decode cL_write 2 = .ok (.aload_n 0, 1) := by decide +kernel
theorem dL_write_3 : decode cL_write 3 = .ok (.iload_n 1, 1) := by decide +kernel
theorem dL_write_4 : decode cL_write 4 = .ok (.iload_n 2, 1) := by decide +kernel
theorem dL_write_5 : decode cL_write 5 = .ok (.invokevirtual 38, 3) := by decide +kernel
theorem dL_write_8 : decode cL_write 8 = .ok (.ifCond .eq 7, 3) := by decide +kernel
theorem dL_write_11 : decode cL_write 11 = .ok (.lconst 1, 1) := by decide +kernel
theorem dL_write_12 : decode cL_write 12 = .ok (.goto 4, 3) := by decide +kernel
theorem dL_write_15 : decode cL_write 15 = .ok (.lconst 0, 1) := by decide +kernel
theorem dL_write_16 : decode cL_write 16 = .ok (.lastore, 1) := by decide +kernel
theorem dL_write_17 : decode cL_write 17 = .ok (.goto 11, 3) := by decide +kernel
theorem dL_write_20 : decode cL_write 20 = .ok (.astore 4, 2) := by decide +kernel
theorem dL_write_22 : decode cL_write 22 = .ok (.iconst 1, 1) := by decide +kernel
theorem dL_write_23 : decode cL_write 23 = .ok (.ireturn, 1) := by decide +kernel
theorem dL_write_24 : decode cL_write 24 = .ok (.astore 4, 2) := by decide +kernel
theorem dL_write_26 : decode cL_write 26 = .ok (.iconst 2, 1) := by decide +kernel
theorem dL_write_27 : decode cL_write 27 = .ok (.ireturn, 1) := by decide +kernel
theorem dL_write_28 : decode cL_write 28 = .ok (.iconst 0, 1) := by decide +kernel
theorem dL_write_29 : decode cL_write 29 = .ok (.ireturn, 1) := by decide +kernel
theorem dL_read_0 : decode cL_read 0 = .ok (.aload_n 2, 1) := by decide +kernel
theorem dL_read_1 : decode cL_read 1 = .ok (.iconst 0, 1) := by decide +kernel
theorem dL_read_2 : decode cL_read 2 = .ok (.aload_n 0, 1) := by decide +kernel
theorem dL_read_3 : decode cL_read 3 = .ok (.iload_n 1, 1) := by decide +kernel
theorem dL_read_4 : decode cL_read 4 = .ok (.invokevirtual 42, 3) := by decide +kernel
theorem dL_read_7 : decode cL_read 7 = .ok (.i2l, 1) := by decide +kernel
theorem dL_read_8 : decode cL_read 8 = .ok (.lastore, 1) := by decide +kernel
theorem dL_read_9 : decode cL_read 9 = .ok (.goto 9, 3) := by decide +kernel
theorem dL_read_12 : decode cL_read 12 = .ok (.astore_n 3, 1) := by decide +kernel
theorem dL_read_13 : decode cL_read 13 = .ok (.iconst 1, 1) := by decide +kernel
theorem dL_read_14 : decode cL_read 14 = .ok (.ireturn, 1) := by decide +kernel
theorem dL_read_15 : decode cL_read 15 = .ok (.astore_n 3, 1) := by decide +kernel
theorem dL_read_16 : decode cL_read 16 = .ok (.iconst 2, 1) := by decide +kernel
theorem dL_read_17 : decode cL_read 17 = .ok (.ireturn, 1) := by decide +kernel
theorem dL_read_18 : decode cL_read 18 = .ok (.iconst 0, 1) := by decide +kernel
theorem dL_read_19 : decode cL_read 19 = .ok (.ireturn, 1) := by decide +kernel
theorem dL_room_0 : decode cL_room 0 = .ok (.aload_n 2, 1) := by decide +kernel
theorem dL_room_1 : decode cL_room 1 = .ok (.iconst 0, 1) := by decide +kernel
theorem dL_room_2 : decode cL_room 2 = .ok (.aload_n 0, 1) := by decide +kernel
theorem dL_room_3 : decode cL_room 3 = .ok (.iload_n 1, 1) := by decide +kernel
theorem dL_room_4 : decode cL_room 4 = .ok (.invokevirtual 45, 3) := by decide +kernel
theorem dL_room_7 : decode cL_room 7 = .ok (.i2l, 1) := by decide +kernel
theorem dL_room_8 : decode cL_room 8 = .ok (.lastore, 1) := by decide +kernel
theorem dL_room_9 : decode cL_room 9 = .ok (.goto 6, 3) := by decide +kernel
theorem dL_room_12 : decode cL_room 12 = .ok (.astore_n 3, 1) := by decide +kernel
theorem dL_room_13 : decode cL_room 13 = .ok (.iconst 1, 1) := by decide +kernel
theorem dL_room_14 : decode cL_room 14 = .ok (.ireturn, 1) := by decide +kernel
theorem dL_room_15 : decode cL_room 15 = .ok (.iconst 0, 1) := by decide +kernel
theorem dL_room_16 : decode cL_room 16 = .ok (.ireturn, 1) := by decide +kernel
theorem dL_ahead_0 : decode cL_ahead 0 = .ok (.aload_n 2, 1) := by decide +kernel
theorem dL_ahead_1 : decode cL_ahead 1 = .ok (.iconst 0, 1) := by decide +kernel
theorem dL_ahead_2 : decode cL_ahead 2 = .ok (.aload_n 0, 1) := by decide +kernel
theorem dL_ahead_3 : decode cL_ahead 3 = .ok (.iload_n 1, 1) := by decide +kernel
theorem dL_ahead_4 : decode cL_ahead 4 = .ok (.invokevirtual 48, 3) := by decide +kernel
theorem dL_ahead_7 : decode cL_ahead 7 = .ok (.i2l, 1) := by decide +kernel
theorem dL_ahead_8 : decode cL_ahead 8 = .ok (.lastore, 1) := by decide +kernel
theorem dL_ahead_9 : decode cL_ahead 9 = .ok (.goto 6, 3) := by decide +kernel
theorem dL_ahead_12 : decode cL_ahead 12 = .ok (.astore_n 3, 1) := by decide +kernel
theorem dL_ahead_13 : decode cL_ahead 13 = .ok (.iconst 1, 1) := by decide +kernel
theorem dL_ahead_14 : decode cL_ahead 14 = .ok (.ireturn, 1) := by decide +kernel
theorem dL_ahead_15 : decode cL_ahead 15 = .ok (.iconst 0, 1) := by decide +kernel
theorem dL_ahead_16 : decode cL_ahead 16 = .ok (.ireturn, 1) := by decide +kernel
theorem dL_coming_0 : decode cL_coming 0 = .ok (.aload_n 0, 1) := by decide +kernel
theorem dL_coming_1 : decode cL_coming 1 = .ok (.iload_n 1, 1) := by decide +kernel
theorem dL_coming_2 : decode cL_coming 2 = .ok (.iload_n 2, 1) := by decide +kernel
theorem dL_coming_3 : decode cL_coming 3 = .ok (.iload_n 3, 1) := by decide +kernel
theorem dL_coming_4 : decode cL_coming 4 = .ok (.invokevirtual 51, 3) := by decide +kernel
theorem dL_coming_7 : decode cL_coming 7 = .ok (.goto 7, 3) := by decide +kernel
theorem dL_coming_10 : decode cL_coming 10 = .ok (.astore 4, 2) := by decide +kernel
theorem dL_coming_12 : decode cL_coming 12 = .ok (.iconst 1, 1) := by decide +kernel
theorem dL_coming_13 : decode cL_coming 13 = .ok (.ireturn, 1) := by decide +kernel
theorem dL_coming_14 : decode cL_coming 14 = .ok (.iconst 0, 1) := by decide +kernel
theorem dL_coming_15 : decode cL_coming 15 = .ok (.ireturn, 1) := by decide +kernel
theorem dL_played_0 : decode cL_played 0 = .ok (.aload 4, 2) := by decide +kernel
theorem dL_played_2 : decode cL_played 2 = .ok (.iconst 0, 1) := by decide +kernel
theorem dL_played_3 : decode cL_played 3 = .ok (.aload_n 0, 1) := by decide +kernel
theorem dL_played_4 : decode cL_played 4 = .ok (.iload_n 1, 1) := by decide +kernel
theorem dL_played_5 : decode cL_played 5 = .ok (.iload_n 2, 1) := by decide +kernel
theorem dL_played_6 : decode cL_played 6 = .ok (.iload_n 3, 1) := by decide +kernel
theorem dL_played_7 : decode cL_played 7 = .ok (.invokevirtual 55, 3) := by decide +kernel
theorem dL_played_10 : decode cL_played 10 = .ok (.i2l, 1) := by decide +kernel
theorem dL_played_11 : decode cL_played 11 = .ok (.lastore, 1) := by decide +kernel
theorem dL_played_12 : decode cL_played 12 = .ok (.goto 7, 3) := by decide +kernel
theorem dL_played_15 : decode cL_played 15 = .ok (.astore 5, 2) := by decide +kernel
theorem dL_played_17 : decode cL_played 17 = .ok (.iconst 1, 1) := by decide +kernel
theorem dL_played_18 : decode cL_played 18 = .ok (.ireturn, 1) := by decide +kernel
theorem dL_played_19 : decode cL_played 19 = .ok (.iconst 0, 1) := by decide +kernel
theorem dL_played_20 : decode cL_played 20 = .ok (.ireturn, 1) := by decide +kernel
theorem dL_position_0 : decode cL_position 0 = .ok (.aload_n 2, 1) := by decide +kernel
theorem dL_position_1 : decode cL_position 1 = .ok (.iconst 0, 1) := by decide +kernel
theorem dL_position_2 : decode cL_position 2 = .ok (.aload_n 0, 1) := by decide +kernel
theorem dL_position_3 : decode cL_position 3 = .ok (.iload_n 1, 1) := by decide +kernel
theorem dL_position_4 : decode cL_position 4 = .ok (.invokevirtual 59, 3) := by decide +kernel
theorem dL_position_7 : decode cL_position 7 = .ok (.i2l, 1) := by decide +kernel
theorem dL_position_8 : decode cL_position 8 = .ok (.lastore, 1) := by decide +kernel
theorem dL_position_9 : decode cL_position 9 = .ok (.goto 6, 3) := by decide +kernel
theorem dL_position_12 : decode cL_position 12 = .ok (.astore_n 3, 1) := by decide +kernel
theorem dL_position_13 : decode cL_position 13 = .ok (.iconst 1, 1) := by decide +kernel
theorem dL_position_14 : decode cL_position 14 = .ok (.ireturn, 1) := by decide +kernel
theorem dL_position_15 : decode cL_position 15 = .ok (.iconst 0, 1) := by decide +kernel
theorem dL_position_16 : decode cL_position 16 = .ok (.ireturn, 1) := by decide +kernel
theorem dL_late_0 : decode cL_late 0 = .ok (.aload_n 2, 1) := by decide +kernel
theorem dL_late_1 : decode cL_late 1 = .ok (.iconst 0, 1) := by decide +kernel
theorem dL_late_2 : decode cL_late 2 = .ok (.aload_n 0, 1) := by decide +kernel
theorem dL_late_3 : decode cL_late 3 = .ok (.iload_n 1, 1) := by decide +kernel
theorem dL_late_4 : decode cL_late 4 = .ok (.invokevirtual 62, 3) := by decide +kernel
theorem dL_late_7 : decode cL_late 7 = .ok (.i2l, 1) := by decide +kernel
theorem dL_late_8 : decode cL_late 8 = .ok (.lastore, 1) := by decide +kernel
theorem dL_late_9 : decode cL_late 9 = .ok (.goto 6, 3) := by decide +kernel
theorem dL_late_12 : decode cL_late 12 = .ok (.astore_n 3, 1) := by decide +kernel
theorem dL_late_13 : decode cL_late 13 = .ok (.iconst 1, 1) := by decide +kernel
theorem dL_late_14 : decode cL_late 14 = .ok (.ireturn, 1) := by decide +kernel
theorem dL_late_15 : decode cL_late 15 = .ok (.iconst 0, 1) := by decide +kernel
theorem dL_late_16 : decode cL_late 16 = .ok (.ireturn, 1) := by decide +kernel
theorem dL_level_0 : decode cL_level 0 = .ok (.aload_n 2, 1) := by decide +kernel
theorem dL_level_1 : decode cL_level 1 = .ok (.iconst 0, 1) := by decide +kernel
theorem dL_level_2 : decode cL_level 2 = .ok (.aload_n 0, 1) := by decide +kernel
theorem dL_level_3 : decode cL_level 3 = .ok (.iload_n 1, 1) := by decide +kernel
theorem dL_level_4 : decode cL_level 4 = .ok (.invokevirtual 65, 3) := by decide +kernel
theorem dL_level_7 : decode cL_level 7 = .ok (.dastore, 1) := by decide +kernel
theorem dL_level_8 : decode cL_level 8 = .ok (.goto 6, 3) := by decide +kernel
theorem dL_level_11 : decode cL_level 11 = .ok (.astore_n 3, 1) := by decide +kernel
theorem dL_level_12 : decode cL_level 12 = .ok (.iconst 1, 1) := by decide +kernel
theorem dL_level_13 : decode cL_level 13 = .ok (.ireturn, 1) := by decide +kernel
theorem dL_level_14 : decode cL_level 14 = .ok (.iconst 0, 1) := by decide +kernel
theorem dL_level_15 : decode cL_level 15 = .ok (.ireturn, 1) := by decide +kernel
theorem dL_tap_0 : decode cL_tap 0 = .ok (.aload_n 3, 1) := by decide +kernel
theorem dL_tap_1 : decode cL_tap 1 = .ok (.iconst 0, 1) := by decide +kernel
theorem dL_tap_2 : decode cL_tap 2 = .ok (.aload_n 0, 1) := by decide +kernel
theorem dL_tap_3 : decode cL_tap 3 = .ok (.iload_n 1, 1) := by decide +kernel
theorem dL_tap_4 : decode cL_tap 4 = .ok (.iload_n 2, 1) := by decide +kernel
theorem dL_tap_5 : decode cL_tap 5 = .ok (.invokevirtual 69, 3) := by decide +kernel
theorem dL_tap_8 : decode cL_tap 8 = .ok (.i2l, 1) := by decide +kernel
theorem dL_tap_9 : decode cL_tap 9 = .ok (.lastore, 1) := by decide +kernel
theorem dL_tap_10 : decode cL_tap 10 = .ok (.goto 7, 3) := by decide +kernel
theorem dL_tap_13 : decode cL_tap 13 = .ok (.astore 4, 2) := by decide +kernel
theorem dL_tap_15 : decode cL_tap 15 = .ok (.iconst 1, 1) := by decide +kernel
theorem dL_tap_16 : decode cL_tap 16 = .ok (.ireturn, 1) := by decide +kernel
theorem dL_tap_17 : decode cL_tap 17 = .ok (.iconst 0, 1) := by decide +kernel
theorem dL_tap_18 : decode cL_tap 18 = .ok (.ireturn, 1) := by decide +kernel
theorem dL_law_0 : decode cL_law 0 = .ok (.new 8, 3) := by decide +kernel
theorem dL_law_3 : decode cL_law 3 = .ok (.dup, 1) := by decide +kernel
theorem dL_law_4 : decode cL_law 4 = .ok (.invokespecial 73, 3) := by decide +kernel
theorem dL_law_7 : decode cL_law 7 = .ok (.astore_n 1, 1) := by decide +kernel
theorem dL_law_8 : decode cL_law 8 = .ok (.new 74, 3) := by decide +kernel
theorem dL_law_11 : decode cL_law 11 = .ok (.dup, 1) := by decide +kernel
theorem dL_law_12 : decode cL_law 12 = .ok (.invokespecial 76, 3) := by decide +kernel
theorem dL_law_15 : decode cL_law 15 = .ok (.astore_n 2, 1) := by decide +kernel
theorem dL_law_16 : decode cL_law 16 = .ok (.iconst 1, 1) := by decide +kernel
theorem dL_law_17 : decode cL_law 17 = .ok (.newarray .long, 2) := by decide +kernel
theorem dL_law_19 : decode cL_law 19 = .ok (.astore_n 3, 1) := by decide +kernel
theorem dL_law_20 : decode cL_law 20 = .ok (.iconst 1, 1) := by decide +kernel
theorem dL_law_21 : decode cL_law 21 = .ok (.newarray .double, 2) := by decide +kernel
theorem dL_law_23 : decode cL_law 23 = .ok (.astore 4, 2) := by decide +kernel
theorem dL_law_25 : decode cL_law 25 = .ok (.iconst 0, 1) := by decide +kernel
theorem dL_law_26 : decode cL_law 26 = .ok (.istore 5, 2) := by decide +kernel
theorem dL_law_28 : decode cL_law 28 = .ok (.iload 5, 2) := by decide +kernel
theorem dL_law_30 : decode cL_law 30 = .ok (.aload_n 0, 1) := by decide +kernel
theorem dL_law_31 : decode cL_law 31 = .ok (.arraylength, 1) := by decide +kernel
theorem dL_law_32 : decode cL_law 32 = .ok (.iconst 5, 1) := by decide +kernel
theorem dL_law_33 : decode cL_law 33 = .ok (.isub, 1) := by decide +kernel
theorem dL_law_34 : decode cL_law 34 = .ok (.if_icmp .gt 1251, 3) := by decide +kernel
theorem dL_law_37 : decode cL_law 37 = .ok (.aload_n 0, 1) := by decide +kernel
theorem dL_law_38 : decode cL_law 38 = .ok (.iload 5, 2) := by decide +kernel
theorem dL_law_40 : decode cL_law 40 = .ok (.iaload, 1) := by decide +kernel
theorem dL_law_41 : decode cL_law 41 = .ok (.bipush 31, 2) := by decide +kernel
theorem dL_law_43 : decode cL_law 43 = .ok (.iand, 1) := by decide +kernel
theorem dL_law_44 : decode cL_law 44 = .ok (.tableswitch 1235 0 21 #[104, 212, 248, 306, 342, 378, 414, 470, 545, 601, 657, 713, 726, 739, 815, 911, 967, 1023, 1100, 1113, 1154, 1167], 104) := by decide +kernel
theorem dL_law_148 : decode cL_law 148 = .ok (.aload_n 1, 1) := by decide +kernel
theorem dL_law_149 : decode cL_law 149 = .ok (.aload_n 0, 1) := by decide +kernel
theorem dL_law_150 : decode cL_law 150 = .ok (.iload 5, 2) := by decide +kernel
theorem dL_law_152 : decode cL_law 152 = .ok (.iconst 1, 1) := by decide +kernel
theorem dL_law_153 : decode cL_law 153 = .ok (.iadd, 1) := by decide +kernel
theorem dL_law_154 : decode cL_law 154 = .ok (.iaload, 1) := by decide +kernel
theorem dL_law_155 : decode cL_law 155 = .ok (.ifCond .eq 7, 3) := by decide +kernel
theorem dL_law_158 : decode cL_law 158 = .ok (.iconst 1, 1) := by decide +kernel
theorem dL_law_159 : decode cL_law 159 = .ok (.goto 4, 3) := by decide +kernel
theorem dL_law_162 : decode cL_law 162 = .ok (.iconst 0, 1) := by decide +kernel
theorem dL_law_163 : decode cL_law 163 = .ok (.aload_n 0, 1) := by decide +kernel
theorem dL_law_164 : decode cL_law 164 = .ok (.iload 5, 2) := by decide +kernel
theorem dL_law_166 : decode cL_law 166 = .ok (.iconst 2, 1) := by decide +kernel
theorem dL_law_167 : decode cL_law 167 = .ok (.iadd, 1) := by decide +kernel
theorem dL_law_168 : decode cL_law 168 = .ok (.iaload, 1) := by decide +kernel
theorem dL_law_169 : decode cL_law 169 = .ok (.aload_n 0, 1) := by decide +kernel
theorem dL_law_170 : decode cL_law 170 = .ok (.iload 5, 2) := by decide +kernel
theorem dL_law_172 : decode cL_law 172 = .ok (.iconst 3, 1) := by decide +kernel
theorem dL_law_173 : decode cL_law 173 = .ok (.iadd, 1) := by decide +kernel
theorem dL_law_174 : decode cL_law 174 = .ok (.iaload, 1) := by decide +kernel
theorem dL_law_175 : decode cL_law 175 = .ok (.aload_n 0, 1) := by decide +kernel
theorem dL_law_176 : decode cL_law 176 = .ok (.iload 5, 2) := by decide +kernel
theorem dL_law_178 : decode cL_law 178 = .ok (.iconst 4, 1) := by decide +kernel
theorem dL_law_179 : decode cL_law 179 = .ok (.iadd, 1) := by decide +kernel
theorem dL_law_180 : decode cL_law 180 = .ok (.iaload, 1) := by decide +kernel
theorem dL_law_181 : decode cL_law 181 = .ok (.aload_n 3, 1) := by decide +kernel
theorem dL_law_182 : decode cL_law 182 = .ok (.invokestatic 77, 3) := by decide +kernel
theorem dL_law_185 : decode cL_law 185 = .ok (.istore 6, 2) := by decide +kernel
theorem dL_law_187 : decode cL_law 187 = .ok (.aload_n 2, 1) := by decide +kernel
theorem dL_law_188 : decode cL_law 188 = .ok (.aload_n 0, 1) := by decide +kernel
theorem dL_law_189 : decode cL_law 189 = .ok (.iload 5, 2) := by decide +kernel
theorem dL_law_191 : decode cL_law 191 = .ok (.iconst 1, 1) := by decide +kernel
theorem dL_law_192 : decode cL_law 192 = .ok (.iadd, 1) := by decide +kernel
theorem dL_law_193 : decode cL_law 193 = .ok (.iaload, 1) := by decide +kernel
theorem dL_law_194 : decode cL_law 194 = .ok (.ifCond .eq 7, 3) := by decide +kernel
theorem dL_law_197 : decode cL_law 197 = .ok (.iconst 1, 1) := by decide +kernel
theorem dL_law_198 : decode cL_law 198 = .ok (.goto 4, 3) := by decide +kernel
theorem dL_law_201 : decode cL_law 201 = .ok (.iconst 0, 1) := by decide +kernel
theorem dL_law_202 : decode cL_law 202 = .ok (.aload_n 0, 1) := by decide +kernel
theorem dL_law_203 : decode cL_law 203 = .ok (.iload 5, 2) := by decide +kernel
theorem dL_law_205 : decode cL_law 205 = .ok (.iconst 2, 1) := by decide +kernel
theorem dL_law_206 : decode cL_law 206 = .ok (.iadd, 1) := by decide +kernel
theorem dL_law_207 : decode cL_law 207 = .ok (.iaload, 1) := by decide +kernel
theorem dL_law_208 : decode cL_law 208 = .ok (.aload_n 0, 1) := by decide +kernel
theorem dL_law_209 : decode cL_law 209 = .ok (.iload 5, 2) := by decide +kernel
theorem dL_law_211 : decode cL_law 211 = .ok (.iconst 3, 1) := by decide +kernel
theorem dL_law_212 : decode cL_law 212 = .ok (.iadd, 1) := by decide +kernel
theorem dL_law_213 : decode cL_law 213 = .ok (.iaload, 1) := by decide +kernel
theorem dL_law_214 : decode cL_law 214 = .ok (.aload_n 0, 1) := by decide +kernel
theorem dL_law_215 : decode cL_law 215 = .ok (.iload 5, 2) := by decide +kernel
theorem dL_law_217 : decode cL_law 217 = .ok (.iconst 4, 1) := by decide +kernel
theorem dL_law_218 : decode cL_law 218 = .ok (.iadd, 1) := by decide +kernel
theorem dL_law_219 : decode cL_law 219 = .ok (.iaload, 1) := by decide +kernel
theorem dL_law_220 : decode cL_law 220 = .ok (.invokevirtual 82, 3) := by decide +kernel
theorem dL_law_223 : decode cL_law 223 = .ok (.istore 7, 2) := by decide +kernel
theorem dL_law_225 : decode cL_law 225 = .ok (.aload_n 2, 1) := by decide +kernel
theorem dL_law_226 : decode cL_law 226 = .ok (.invokevirtual 83, 3) := by decide +kernel
theorem dL_law_229 : decode cL_law 229 = .ok (.iload 6, 2) := by decide +kernel
theorem dL_law_231 : decode cL_law 231 = .ok (.if_icmp .eq 5, 3) := by decide +kernel
theorem dL_law_234 : decode cL_law 234 = .ok (.iconst 0, 1) := by decide +kernel
theorem dL_law_235 : decode cL_law 235 = .ok (.ireturn, 1) := by decide +kernel
theorem dL_law_236 : decode cL_law 236 = .ok (.iload 6, 2) := by decide +kernel
theorem dL_law_238 : decode cL_law 238 = .ok (.ifCond .ne 15, 3) := by decide +kernel
theorem dL_law_241 : decode cL_law 241 = .ok (.aload_n 3, 1) := by decide +kernel
theorem dL_law_242 : decode cL_law 242 = .ok (.iconst 0, 1) := by decide +kernel
theorem dL_law_243 : decode cL_law 243 = .ok (.laload, 1) := by decide +kernel
theorem dL_law_244 : decode cL_law 244 = .ok (.iload 7, 2) := by decide +kernel
theorem dL_law_246 : decode cL_law 246 = .ok (.i2l, 1) := by decide +kernel
theorem dL_law_247 : decode cL_law 247 = .ok (.lcmp, 1) := by decide +kernel
theorem dL_law_248 : decode cL_law 248 = .ok (.ifCond .eq 5, 3) := by decide +kernel
theorem dL_law_251 : decode cL_law 251 = .ok (.iconst 0, 1) := by decide +kernel
theorem dL_law_252 : decode cL_law 252 = .ok (.ireturn, 1) := by decide +kernel
theorem dL_law_253 : decode cL_law 253 = .ok (.goto 1026, 3) := by decide +kernel
theorem dL_law_256 : decode cL_law 256 = .ok (.aload_n 1, 1) := by decide +kernel
theorem dL_law_257 : decode cL_law 257 = .ok (.aload_n 0, 1) := by decide +kernel
theorem dL_law_258 : decode cL_law 258 = .ok (.iload 5, 2) := by decide +kernel
theorem dL_law_260 : decode cL_law 260 = .ok (.iconst 1, 1) := by decide +kernel
theorem dL_law_261 : decode cL_law 261 = .ok (.iadd, 1) := by decide +kernel
theorem dL_law_262 : decode cL_law 262 = .ok (.iaload, 1) := by decide +kernel
theorem dL_law_263 : decode cL_law 263 = .ok (.invokestatic 87, 3) := by decide +kernel
theorem dL_law_266 : decode cL_law 266 = .ok (.istore 6, 2) := by decide +kernel
theorem dL_law_268 : decode cL_law 268 = .ok (.aload_n 2, 1) := by decide +kernel
theorem dL_law_269 : decode cL_law 269 = .ok (.aload_n 0, 1) := by decide +kernel
theorem dL_law_270 : decode cL_law 270 = .ok (.iload 5, 2) := by decide +kernel
theorem dL_law_272 : decode cL_law 272 = .ok (.iconst 1, 1) := by decide +kernel
theorem dL_law_273 : decode cL_law 273 = .ok (.iadd, 1) := by decide +kernel
theorem dL_law_274 : decode cL_law 274 = .ok (.iaload, 1) := by decide +kernel
theorem dL_law_275 : decode cL_law 275 = .ok (.invokevirtual 90, 3) := by decide +kernel
theorem dL_law_278 : decode cL_law 278 = .ok (.aload_n 2, 1) := by decide +kernel
theorem dL_law_279 : decode cL_law 279 = .ok (.invokevirtual 83, 3) := by decide +kernel
theorem dL_law_282 : decode cL_law 282 = .ok (.iload 6, 2) := by decide +kernel
theorem dL_law_284 : decode cL_law 284 = .ok (.if_icmp .eq 5, 3) := by decide +kernel
theorem dL_law_287 : decode cL_law 287 = .ok (.iconst 0, 1) := by decide +kernel
theorem dL_law_288 : decode cL_law 288 = .ok (.ireturn, 1) := by decide +kernel
theorem dL_law_289 : decode cL_law 289 = .ok (.goto 990, 3) := by decide +kernel
theorem dL_law_292 : decode cL_law 292 = .ok (.aload_n 1, 1) := by decide +kernel
theorem dL_law_293 : decode cL_law 293 = .ok (.aload_n 0, 1) := by decide +kernel
theorem dL_law_294 : decode cL_law 294 = .ok (.iload 5, 2) := by decide +kernel
theorem dL_law_296 : decode cL_law 296 = .ok (.iconst 1, 1) := by decide +kernel
theorem dL_law_297 : decode cL_law 297 = .ok (.iadd, 1) := by decide +kernel
theorem dL_law_298 : decode cL_law 298 = .ok (.iaload, 1) := by decide +kernel
theorem dL_law_299 : decode cL_law 299 = .ok (.aload_n 0, 1) := by decide +kernel
theorem dL_law_300 : decode cL_law 300 = .ok (.iload 5, 2) := by decide +kernel
theorem dL_law_302 : decode cL_law 302 = .ok (.iconst 2, 1) := by decide +kernel
theorem dL_law_303 : decode cL_law 303 = .ok (.iadd, 1) := by decide +kernel
theorem dL_law_304 : decode cL_law 304 = .ok (.iaload, 1) := by decide +kernel
theorem dL_law_305 : decode cL_law 305 = .ok (.i2d, 1) := by decide +kernel
theorem dL_law_306 : decode cL_law 306 = .ok (.ldc2_w 91, 3) := by decide +kernel
theorem dL_law_309 : decode cL_law 309 = .ok (.dmul, 1) := by decide +kernel
theorem dL_law_310 : decode cL_law 310 = .ok (.invokestatic 93, 3) := by decide +kernel
theorem dL_law_313 : decode cL_law 313 = .ok (.istore 6, 2) := by decide +kernel
theorem dL_law_315 : decode cL_law 315 = .ok (.aload_n 2, 1) := by decide +kernel
theorem dL_law_316 : decode cL_law 316 = .ok (.aload_n 0, 1) := by decide +kernel
theorem dL_law_317 : decode cL_law 317 = .ok (.iload 5, 2) := by decide +kernel
theorem dL_law_319 : decode cL_law 319 = .ok (.iconst 1, 1) := by decide +kernel
theorem dL_law_320 : decode cL_law 320 = .ok (.iadd, 1) := by decide +kernel
theorem dL_law_321 : decode cL_law 321 = .ok (.iaload, 1) := by decide +kernel
theorem dL_law_322 : decode cL_law 322 = .ok (.aload_n 0, 1) := by decide +kernel
theorem dL_law_323 : decode cL_law 323 = .ok (.iload 5, 2) := by decide +kernel
theorem dL_law_325 : decode cL_law 325 = .ok (.iconst 2, 1) := by decide +kernel
theorem dL_law_326 : decode cL_law 326 = .ok (.iadd, 1) := by decide +kernel
theorem dL_law_327 : decode cL_law 327 = .ok (.iaload, 1) := by decide +kernel
theorem dL_law_328 : decode cL_law 328 = .ok (.i2d, 1) := by decide +kernel
theorem dL_law_329 : decode cL_law 329 = .ok (.ldc2_w 91, 3) := by decide +kernel
theorem dL_law_332 : decode cL_law 332 = .ok (.dmul, 1) := by decide +kernel
theorem dL_law_333 : decode cL_law 333 = .ok (.invokevirtual 96, 3) := by decide +kernel
theorem dL_law_336 : decode cL_law 336 = .ok (.aload_n 2, 1) := by decide +kernel
theorem dL_law_337 : decode cL_law 337 = .ok (.invokevirtual 83, 3) := by decide +kernel
theorem dL_law_340 : decode cL_law 340 = .ok (.iload 6, 2) := by decide +kernel
theorem dL_law_342 : decode cL_law 342 = .ok (.if_icmp .eq 5, 3) := by decide +kernel
theorem dL_law_345 : decode cL_law 345 = .ok (.iconst 0, 1) := by decide +kernel
theorem dL_law_346 : decode cL_law 346 = .ok (.ireturn, 1) := by decide +kernel
theorem dL_law_347 : decode cL_law 347 = .ok (.goto 932, 3) := by decide +kernel
theorem dL_law_350 : decode cL_law 350 = .ok (.aload_n 1, 1) := by decide +kernel
theorem dL_law_351 : decode cL_law 351 = .ok (.aload_n 0, 1) := by decide +kernel
theorem dL_law_352 : decode cL_law 352 = .ok (.iload 5, 2) := by decide +kernel
theorem dL_law_354 : decode cL_law 354 = .ok (.iconst 1, 1) := by decide +kernel
theorem dL_law_355 : decode cL_law 355 = .ok (.iadd, 1) := by decide +kernel
theorem dL_law_356 : decode cL_law 356 = .ok (.iaload, 1) := by decide +kernel
theorem dL_law_357 : decode cL_law 357 = .ok (.invokestatic 97, 3) := by decide +kernel
theorem dL_law_360 : decode cL_law 360 = .ok (.istore 6, 2) := by decide +kernel
theorem dL_law_362 : decode cL_law 362 = .ok (.aload_n 2, 1) := by decide +kernel
theorem dL_law_363 : decode cL_law 363 = .ok (.aload_n 0, 1) := by decide +kernel
theorem dL_law_364 : decode cL_law 364 = .ok (.iload 5, 2) := by decide +kernel
theorem dL_law_366 : decode cL_law 366 = .ok (.iconst 1, 1) := by decide +kernel
theorem dL_law_367 : decode cL_law 367 = .ok (.iadd, 1) := by decide +kernel
theorem dL_law_368 : decode cL_law 368 = .ok (.iaload, 1) := by decide +kernel
theorem dL_law_369 : decode cL_law 369 = .ok (.invokevirtual 99, 3) := by decide +kernel
theorem dL_law_372 : decode cL_law 372 = .ok (.aload_n 2, 1) := by decide +kernel
theorem dL_law_373 : decode cL_law 373 = .ok (.invokevirtual 83, 3) := by decide +kernel
theorem dL_law_376 : decode cL_law 376 = .ok (.iload 6, 2) := by decide +kernel
theorem dL_law_378 : decode cL_law 378 = .ok (.if_icmp .eq 5, 3) := by decide +kernel
theorem dL_law_381 : decode cL_law 381 = .ok (.iconst 0, 1) := by decide +kernel
theorem dL_law_382 : decode cL_law 382 = .ok (.ireturn, 1) := by decide +kernel
theorem dL_law_383 : decode cL_law 383 = .ok (.goto 896, 3) := by decide +kernel
theorem dL_law_386 : decode cL_law 386 = .ok (.aload_n 1, 1) := by decide +kernel
theorem dL_law_387 : decode cL_law 387 = .ok (.aload_n 0, 1) := by decide +kernel
theorem dL_law_388 : decode cL_law 388 = .ok (.iload 5, 2) := by decide +kernel
theorem dL_law_390 : decode cL_law 390 = .ok (.iconst 1, 1) := by decide +kernel
theorem dL_law_391 : decode cL_law 391 = .ok (.iadd, 1) := by decide +kernel
theorem dL_law_392 : decode cL_law 392 = .ok (.iaload, 1) := by decide +kernel
theorem dL_law_393 : decode cL_law 393 = .ok (.invokestatic 100, 3) := by decide +kernel
theorem dL_law_396 : decode cL_law 396 = .ok (.istore 6, 2) := by decide +kernel
theorem dL_law_398 : decode cL_law 398 = .ok (.aload_n 2, 1) := by decide +kernel
theorem dL_law_399 : decode cL_law 399 = .ok (.aload_n 0, 1) := by decide +kernel
theorem dL_law_400 : decode cL_law 400 = .ok (.iload 5, 2) := by decide +kernel
theorem dL_law_402 : decode cL_law 402 = .ok (.iconst 1, 1) := by decide +kernel
theorem dL_law_403 : decode cL_law 403 = .ok (.iadd, 1) := by decide +kernel
theorem dL_law_404 : decode cL_law 404 = .ok (.iaload, 1) := by decide +kernel
theorem dL_law_405 : decode cL_law 405 = .ok (.invokevirtual 102, 3) := by decide +kernel
theorem dL_law_408 : decode cL_law 408 = .ok (.aload_n 2, 1) := by decide +kernel
theorem dL_law_409 : decode cL_law 409 = .ok (.invokevirtual 83, 3) := by decide +kernel
theorem dL_law_412 : decode cL_law 412 = .ok (.iload 6, 2) := by decide +kernel
theorem dL_law_414 : decode cL_law 414 = .ok (.if_icmp .eq 5, 3) := by decide +kernel
theorem dL_law_417 : decode cL_law 417 = .ok (.iconst 0, 1) := by decide +kernel
theorem dL_law_418 : decode cL_law 418 = .ok (.ireturn, 1) := by decide +kernel
theorem dL_law_419 : decode cL_law 419 = .ok (.goto 860, 3) := by decide +kernel
theorem dL_law_422 : decode cL_law 422 = .ok (.aload_n 1, 1) := by decide +kernel
theorem dL_law_423 : decode cL_law 423 = .ok (.aload_n 0, 1) := by decide +kernel
theorem dL_law_424 : decode cL_law 424 = .ok (.iload 5, 2) := by decide +kernel
theorem dL_law_426 : decode cL_law 426 = .ok (.iconst 1, 1) := by decide +kernel
theorem dL_law_427 : decode cL_law 427 = .ok (.iadd, 1) := by decide +kernel
theorem dL_law_428 : decode cL_law 428 = .ok (.iaload, 1) := by decide +kernel
theorem dL_law_429 : decode cL_law 429 = .ok (.invokestatic 103, 3) := by decide +kernel
theorem dL_law_432 : decode cL_law 432 = .ok (.istore 6, 2) := by decide +kernel
theorem dL_law_434 : decode cL_law 434 = .ok (.aload_n 2, 1) := by decide +kernel
theorem dL_law_435 : decode cL_law 435 = .ok (.aload_n 0, 1) := by decide +kernel
theorem dL_law_436 : decode cL_law 436 = .ok (.iload 5, 2) := by decide +kernel
theorem dL_law_438 : decode cL_law 438 = .ok (.iconst 1, 1) := by decide +kernel
theorem dL_law_439 : decode cL_law 439 = .ok (.iadd, 1) := by decide +kernel
theorem dL_law_440 : decode cL_law 440 = .ok (.iaload, 1) := by decide +kernel
theorem dL_law_441 : decode cL_law 441 = .ok (.invokevirtual 105, 3) := by decide +kernel
theorem dL_law_444 : decode cL_law 444 = .ok (.aload_n 2, 1) := by decide +kernel
theorem dL_law_445 : decode cL_law 445 = .ok (.invokevirtual 83, 3) := by decide +kernel
theorem dL_law_448 : decode cL_law 448 = .ok (.iload 6, 2) := by decide +kernel
theorem dL_law_450 : decode cL_law 450 = .ok (.if_icmp .eq 5, 3) := by decide +kernel
theorem dL_law_453 : decode cL_law 453 = .ok (.iconst 0, 1) := by decide +kernel
theorem dL_law_454 : decode cL_law 454 = .ok (.ireturn, 1) := by decide +kernel
theorem dL_law_455 : decode cL_law 455 = .ok (.goto 824, 3) := by decide +kernel
theorem dL_law_458 : decode cL_law 458 = .ok (.aload_n 1, 1) := by decide +kernel
theorem dL_law_459 : decode cL_law 459 = .ok (.aload_n 0, 1) := by decide +kernel
theorem dL_law_460 : decode cL_law 460 = .ok (.iload 5, 2) := by decide +kernel
theorem dL_law_462 : decode cL_law 462 = .ok (.iconst 1, 1) := by decide +kernel
theorem dL_law_463 : decode cL_law 463 = .ok (.iadd, 1) := by decide +kernel
theorem dL_law_464 : decode cL_law 464 = .ok (.iaload, 1) := by decide +kernel
theorem dL_law_465 : decode cL_law 465 = .ok (.aload_n 3, 1) := by decide +kernel
theorem dL_law_466 : decode cL_law 466 = .ok (.invokestatic 106, 3) := by decide +kernel
theorem dL_law_469 : decode cL_law 469 = .ok (.istore 6, 2) := by decide +kernel
theorem dL_law_471 : decode cL_law 471 = .ok (.aload_n 2, 1) := by decide +kernel
theorem dL_law_472 : decode cL_law 472 = .ok (.aload_n 0, 1) := by decide +kernel
theorem dL_law_473 : decode cL_law 473 = .ok (.iload 5, 2) := by decide +kernel
theorem dL_law_475 : decode cL_law 475 = .ok (.iconst 1, 1) := by decide +kernel
theorem dL_law_476 : decode cL_law 476 = .ok (.iadd, 1) := by decide +kernel
theorem dL_law_477 : decode cL_law 477 = .ok (.iaload, 1) := by decide +kernel
theorem dL_law_478 : decode cL_law 478 = .ok (.invokevirtual 109, 3) := by decide +kernel
theorem dL_law_481 : decode cL_law 481 = .ok (.istore 7, 2) := by decide +kernel
theorem dL_law_483 : decode cL_law 483 = .ok (.aload_n 2, 1) := by decide +kernel
theorem dL_law_484 : decode cL_law 484 = .ok (.invokevirtual 83, 3) := by decide +kernel
theorem dL_law_487 : decode cL_law 487 = .ok (.iload 6, 2) := by decide +kernel
theorem dL_law_489 : decode cL_law 489 = .ok (.if_icmp .eq 5, 3) := by decide +kernel
theorem dL_law_492 : decode cL_law 492 = .ok (.iconst 0, 1) := by decide +kernel
theorem dL_law_493 : decode cL_law 493 = .ok (.ireturn, 1) := by decide +kernel
theorem dL_law_494 : decode cL_law 494 = .ok (.iload 6, 2) := by decide +kernel
theorem dL_law_496 : decode cL_law 496 = .ok (.ifCond .ne 15, 3) := by decide +kernel
theorem dL_law_499 : decode cL_law 499 = .ok (.aload_n 3, 1) := by decide +kernel
theorem dL_law_500 : decode cL_law 500 = .ok (.iconst 0, 1) := by decide +kernel
theorem dL_law_501 : decode cL_law 501 = .ok (.laload, 1) := by decide +kernel
theorem dL_law_502 : decode cL_law 502 = .ok (.iload 7, 2) := by decide +kernel
theorem dL_law_504 : decode cL_law 504 = .ok (.i2l, 1) := by decide +kernel
theorem dL_law_505 : decode cL_law 505 = .ok (.lcmp, 1) := by decide +kernel
theorem dL_law_506 : decode cL_law 506 = .ok (.ifCond .eq 5, 3) := by decide +kernel
theorem dL_law_509 : decode cL_law 509 = .ok (.iconst 0, 1) := by decide +kernel
theorem dL_law_510 : decode cL_law 510 = .ok (.ireturn, 1) := by decide +kernel
theorem dL_law_511 : decode cL_law 511 = .ok (.goto 768, 3) := by decide +kernel
theorem dL_law_514 : decode cL_law 514 = .ok (.aload_n 1, 1) := by decide +kernel
theorem dL_law_515 : decode cL_law 515 = .ok (.aload_n 0, 1) := by decide +kernel
theorem dL_law_516 : decode cL_law 516 = .ok (.iload 5, 2) := by decide +kernel
theorem dL_law_518 : decode cL_law 518 = .ok (.iconst 1, 1) := by decide +kernel
theorem dL_law_519 : decode cL_law 519 = .ok (.iadd, 1) := by decide +kernel
theorem dL_law_520 : decode cL_law 520 = .ok (.iaload, 1) := by decide +kernel
theorem dL_law_521 : decode cL_law 521 = .ok (.aload_n 0, 1) := by decide +kernel
theorem dL_law_522 : decode cL_law 522 = .ok (.iload 5, 2) := by decide +kernel
theorem dL_law_524 : decode cL_law 524 = .ok (.iconst 2, 1) := by decide +kernel
theorem dL_law_525 : decode cL_law 525 = .ok (.iadd, 1) := by decide +kernel
theorem dL_law_526 : decode cL_law 526 = .ok (.iaload, 1) := by decide +kernel
theorem dL_law_527 : decode cL_law 527 = .ok (.aload_n 3, 1) := by decide +kernel
theorem dL_law_528 : decode cL_law 528 = .ok (.invokestatic 110, 3) := by decide +kernel
theorem dL_law_531 : decode cL_law 531 = .ok (.istore 6, 2) := by decide +kernel
theorem dL_law_533 : decode cL_law 533 = .ok (.aload_n 2, 1) := by decide +kernel
theorem dL_law_534 : decode cL_law 534 = .ok (.aload_n 0, 1) := by decide +kernel
theorem dL_law_535 : decode cL_law 535 = .ok (.iload 5, 2) := by decide +kernel
theorem dL_law_537 : decode cL_law 537 = .ok (.iconst 1, 1) := by decide +kernel
theorem dL_law_538 : decode cL_law 538 = .ok (.iadd, 1) := by decide +kernel
theorem dL_law_539 : decode cL_law 539 = .ok (.iaload, 1) := by decide +kernel
theorem dL_law_540 : decode cL_law 540 = .ok (.aload_n 0, 1) := by decide +kernel
theorem dL_law_541 : decode cL_law 541 = .ok (.iload 5, 2) := by decide +kernel
theorem dL_law_543 : decode cL_law 543 = .ok (.iconst 2, 1) := by decide +kernel
theorem dL_law_544 : decode cL_law 544 = .ok (.iadd, 1) := by decide +kernel
theorem dL_law_545 : decode cL_law 545 = .ok (.iaload, 1) := by decide +kernel
theorem dL_law_546 : decode cL_law 546 = .ok (.invokevirtual 113, 3) := by decide +kernel
theorem dL_law_549 : decode cL_law 549 = .ok (.istore 7, 2) := by decide +kernel
theorem dL_law_551 : decode cL_law 551 = .ok (.aload_n 2, 1) := by decide +kernel
theorem dL_law_552 : decode cL_law 552 = .ok (.invokevirtual 83, 3) := by decide +kernel
theorem dL_law_555 : decode cL_law 555 = .ok (.iload 6, 2) := by decide +kernel
theorem dL_law_557 : decode cL_law 557 = .ok (.if_icmp .eq 5, 3) := by decide +kernel
theorem dL_law_560 : decode cL_law 560 = .ok (.iconst 0, 1) := by decide +kernel
theorem dL_law_561 : decode cL_law 561 = .ok (.ireturn, 1) := by decide +kernel
theorem dL_law_562 : decode cL_law 562 = .ok (.iload 6, 2) := by decide +kernel
theorem dL_law_564 : decode cL_law 564 = .ok (.ifCond .ne 22, 3) := by decide +kernel
theorem dL_law_567 : decode cL_law 567 = .ok (.aload_n 3, 1) := by decide +kernel
theorem dL_law_568 : decode cL_law 568 = .ok (.iconst 0, 1) := by decide +kernel
theorem dL_law_569 : decode cL_law 569 = .ok (.laload, 1) := by decide +kernel
theorem dL_law_570 : decode cL_law 570 = .ok (.iload 7, 2) := by decide +kernel
theorem dL_law_572 : decode cL_law 572 = .ok (.ifCond .eq 7, 3) := by decide +kernel
theorem dL_law_575 : decode cL_law 575 = .ok (.lconst 1, 1) := by decide +kernel
theorem dL_law_576 : decode cL_law 576 = .ok (.goto 4, 3) := by decide +kernel
theorem dL_law_579 : decode cL_law 579 = .ok (.lconst 0, 1) := by decide +kernel
theorem dL_law_580 : decode cL_law 580 = .ok (.lcmp, 1) := by decide +kernel
theorem dL_law_581 : decode cL_law 581 = .ok (.ifCond .eq 5, 3) := by decide +kernel
theorem dL_law_584 : decode cL_law 584 = .ok (.iconst 0, 1) := by decide +kernel
theorem dL_law_585 : decode cL_law 585 = .ok (.ireturn, 1) := by decide +kernel
theorem dL_law_586 : decode cL_law 586 = .ok (.goto 693, 3) := by decide +kernel
theorem dL_law_589 : decode cL_law 589 = .ok (.aload_n 1, 1) := by decide +kernel
theorem dL_law_590 : decode cL_law 590 = .ok (.aload_n 0, 1) := by decide +kernel
theorem dL_law_591 : decode cL_law 591 = .ok (.iload 5, 2) := by decide +kernel
theorem dL_law_593 : decode cL_law 593 = .ok (.iconst 1, 1) := by decide +kernel
theorem dL_law_594 : decode cL_law 594 = .ok (.iadd, 1) := by decide +kernel
theorem dL_law_595 : decode cL_law 595 = .ok (.iaload, 1) := by decide +kernel
theorem dL_law_596 : decode cL_law 596 = .ok (.aload_n 3, 1) := by decide +kernel
theorem dL_law_597 : decode cL_law 597 = .ok (.invokestatic 114, 3) := by decide +kernel
theorem dL_law_600 : decode cL_law 600 = .ok (.istore 6, 2) := by decide +kernel
theorem dL_law_602 : decode cL_law 602 = .ok (.aload_n 2, 1) := by decide +kernel
theorem dL_law_603 : decode cL_law 603 = .ok (.aload_n 0, 1) := by decide +kernel
theorem dL_law_604 : decode cL_law 604 = .ok (.iload 5, 2) := by decide +kernel
theorem dL_law_606 : decode cL_law 606 = .ok (.iconst 1, 1) := by decide +kernel
theorem dL_law_607 : decode cL_law 607 = .ok (.iadd, 1) := by decide +kernel
theorem dL_law_608 : decode cL_law 608 = .ok (.iaload, 1) := by decide +kernel
theorem dL_law_609 : decode cL_law 609 = .ok (.invokevirtual 116, 3) := by decide +kernel
theorem dL_law_612 : decode cL_law 612 = .ok (.istore 7, 2) := by decide +kernel
theorem dL_law_614 : decode cL_law 614 = .ok (.aload_n 2, 1) := by decide +kernel
theorem dL_law_615 : decode cL_law 615 = .ok (.invokevirtual 83, 3) := by decide +kernel
theorem dL_law_618 : decode cL_law 618 = .ok (.iload 6, 2) := by decide +kernel
theorem dL_law_620 : decode cL_law 620 = .ok (.if_icmp .eq 5, 3) := by decide +kernel
theorem dL_law_623 : decode cL_law 623 = .ok (.iconst 0, 1) := by decide +kernel
theorem dL_law_624 : decode cL_law 624 = .ok (.ireturn, 1) := by decide +kernel
theorem dL_law_625 : decode cL_law 625 = .ok (.iload 6, 2) := by decide +kernel
theorem dL_law_627 : decode cL_law 627 = .ok (.ifCond .ne 15, 3) := by decide +kernel
theorem dL_law_630 : decode cL_law 630 = .ok (.aload_n 3, 1) := by decide +kernel
theorem dL_law_631 : decode cL_law 631 = .ok (.iconst 0, 1) := by decide +kernel
theorem dL_law_632 : decode cL_law 632 = .ok (.laload, 1) := by decide +kernel
theorem dL_law_633 : decode cL_law 633 = .ok (.iload 7, 2) := by decide +kernel
theorem dL_law_635 : decode cL_law 635 = .ok (.i2l, 1) := by decide +kernel
theorem dL_law_636 : decode cL_law 636 = .ok (.lcmp, 1) := by decide +kernel
theorem dL_law_637 : decode cL_law 637 = .ok (.ifCond .eq 5, 3) := by decide +kernel
theorem dL_law_640 : decode cL_law 640 = .ok (.iconst 0, 1) := by decide +kernel
theorem dL_law_641 : decode cL_law 641 = .ok (.ireturn, 1) := by decide +kernel
theorem dL_law_642 : decode cL_law 642 = .ok (.goto 637, 3) := by decide +kernel
theorem dL_law_645 : decode cL_law 645 = .ok (.aload_n 1, 1) := by decide +kernel
theorem dL_law_646 : decode cL_law 646 = .ok (.aload_n 0, 1) := by decide +kernel
theorem dL_law_647 : decode cL_law 647 = .ok (.iload 5, 2) := by decide +kernel
theorem dL_law_649 : decode cL_law 649 = .ok (.iconst 1, 1) := by decide +kernel
theorem dL_law_650 : decode cL_law 650 = .ok (.iadd, 1) := by decide +kernel
theorem dL_law_651 : decode cL_law 651 = .ok (.iaload, 1) := by decide +kernel
theorem dL_law_652 : decode cL_law 652 = .ok (.aload_n 3, 1) := by decide +kernel
theorem dL_law_653 : decode cL_law 653 = .ok (.invokestatic 117, 3) := by decide +kernel
theorem dL_law_656 : decode cL_law 656 = .ok (.istore 6, 2) := by decide +kernel
theorem dL_law_658 : decode cL_law 658 = .ok (.aload_n 2, 1) := by decide +kernel
theorem dL_law_659 : decode cL_law 659 = .ok (.aload_n 0, 1) := by decide +kernel
theorem dL_law_660 : decode cL_law 660 = .ok (.iload 5, 2) := by decide +kernel
theorem dL_law_662 : decode cL_law 662 = .ok (.iconst 1, 1) := by decide +kernel
theorem dL_law_663 : decode cL_law 663 = .ok (.iadd, 1) := by decide +kernel
theorem dL_law_664 : decode cL_law 664 = .ok (.iaload, 1) := by decide +kernel
theorem dL_law_665 : decode cL_law 665 = .ok (.invokevirtual 119, 3) := by decide +kernel
theorem dL_law_668 : decode cL_law 668 = .ok (.istore 7, 2) := by decide +kernel
theorem dL_law_670 : decode cL_law 670 = .ok (.aload_n 2, 1) := by decide +kernel
theorem dL_law_671 : decode cL_law 671 = .ok (.invokevirtual 83, 3) := by decide +kernel
theorem dL_law_674 : decode cL_law 674 = .ok (.iload 6, 2) := by decide +kernel
theorem dL_law_676 : decode cL_law 676 = .ok (.if_icmp .eq 5, 3) := by decide +kernel
theorem dL_law_679 : decode cL_law 679 = .ok (.iconst 0, 1) := by decide +kernel
theorem dL_law_680 : decode cL_law 680 = .ok (.ireturn, 1) := by decide +kernel
theorem dL_law_681 : decode cL_law 681 = .ok (.iload 6, 2) := by decide +kernel
theorem dL_law_683 : decode cL_law 683 = .ok (.ifCond .ne 15, 3) := by decide +kernel
theorem dL_law_686 : decode cL_law 686 = .ok (.aload_n 3, 1) := by decide +kernel
theorem dL_law_687 : decode cL_law 687 = .ok (.iconst 0, 1) := by decide +kernel
theorem dL_law_688 : decode cL_law 688 = .ok (.laload, 1) := by decide +kernel
theorem dL_law_689 : decode cL_law 689 = .ok (.iload 7, 2) := by decide +kernel
theorem dL_law_691 : decode cL_law 691 = .ok (.i2l, 1) := by decide +kernel
theorem dL_law_692 : decode cL_law 692 = .ok (.lcmp, 1) := by decide +kernel
theorem dL_law_693 : decode cL_law 693 = .ok (.ifCond .eq 5, 3) := by decide +kernel
theorem dL_law_696 : decode cL_law 696 = .ok (.iconst 0, 1) := by decide +kernel
theorem dL_law_697 : decode cL_law 697 = .ok (.ireturn, 1) := by decide +kernel
theorem dL_law_698 : decode cL_law 698 = .ok (.goto 581, 3) := by decide +kernel
theorem dL_law_701 : decode cL_law 701 = .ok (.aload_n 1, 1) := by decide +kernel
theorem dL_law_702 : decode cL_law 702 = .ok (.aload_n 0, 1) := by decide +kernel
theorem dL_law_703 : decode cL_law 703 = .ok (.iload 5, 2) := by decide +kernel
theorem dL_law_705 : decode cL_law 705 = .ok (.iconst 1, 1) := by decide +kernel
theorem dL_law_706 : decode cL_law 706 = .ok (.iadd, 1) := by decide +kernel
theorem dL_law_707 : decode cL_law 707 = .ok (.iaload, 1) := by decide +kernel
theorem dL_law_708 : decode cL_law 708 = .ok (.aload_n 3, 1) := by decide +kernel
theorem dL_law_709 : decode cL_law 709 = .ok (.invokestatic 120, 3) := by decide +kernel
theorem dL_law_712 : decode cL_law 712 = .ok (.istore 6, 2) := by decide +kernel
theorem dL_law_714 : decode cL_law 714 = .ok (.aload_n 2, 1) := by decide +kernel
theorem dL_law_715 : decode cL_law 715 = .ok (.aload_n 0, 1) := by decide +kernel
theorem dL_law_716 : decode cL_law 716 = .ok (.iload 5, 2) := by decide +kernel
theorem dL_law_718 : decode cL_law 718 = .ok (.iconst 1, 1) := by decide +kernel
theorem dL_law_719 : decode cL_law 719 = .ok (.iadd, 1) := by decide +kernel
theorem dL_law_720 : decode cL_law 720 = .ok (.iaload, 1) := by decide +kernel
theorem dL_law_721 : decode cL_law 721 = .ok (.invokevirtual 122, 3) := by decide +kernel
theorem dL_law_724 : decode cL_law 724 = .ok (.istore 7, 2) := by decide +kernel
theorem dL_law_726 : decode cL_law 726 = .ok (.aload_n 2, 1) := by decide +kernel
theorem dL_law_727 : decode cL_law 727 = .ok (.invokevirtual 83, 3) := by decide +kernel
theorem dL_law_730 : decode cL_law 730 = .ok (.iload 6, 2) := by decide +kernel
theorem dL_law_732 : decode cL_law 732 = .ok (.if_icmp .eq 5, 3) := by decide +kernel
theorem dL_law_735 : decode cL_law 735 = .ok (.iconst 0, 1) := by decide +kernel
theorem dL_law_736 : decode cL_law 736 = .ok (.ireturn, 1) := by decide +kernel
theorem dL_law_737 : decode cL_law 737 = .ok (.iload 6, 2) := by decide +kernel
theorem dL_law_739 : decode cL_law 739 = .ok (.ifCond .ne 15, 3) := by decide +kernel
theorem dL_law_742 : decode cL_law 742 = .ok (.aload_n 3, 1) := by decide +kernel
theorem dL_law_743 : decode cL_law 743 = .ok (.iconst 0, 1) := by decide +kernel
theorem dL_law_744 : decode cL_law 744 = .ok (.laload, 1) := by decide +kernel
theorem dL_law_745 : decode cL_law 745 = .ok (.iload 7, 2) := by decide +kernel
theorem dL_law_747 : decode cL_law 747 = .ok (.i2l, 1) := by decide +kernel
theorem dL_law_748 : decode cL_law 748 = .ok (.lcmp, 1) := by decide +kernel
theorem dL_law_749 : decode cL_law 749 = .ok (.ifCond .eq 5, 3) := by decide +kernel
theorem dL_law_752 : decode cL_law 752 = .ok (.iconst 0, 1) := by decide +kernel
theorem dL_law_753 : decode cL_law 753 = .ok (.ireturn, 1) := by decide +kernel
theorem dL_law_754 : decode cL_law 754 = .ok (.goto 525, 3) := by decide +kernel
theorem dL_law_757 : decode cL_law 757 = .ok (.aload_n 1, 1) := by decide +kernel
theorem dL_law_758 : decode cL_law 758 = .ok (.invokevirtual 123, 3) := by decide +kernel
theorem dL_law_761 : decode cL_law 761 = .ok (.aload_n 2, 1) := by decide +kernel
theorem dL_law_762 : decode cL_law 762 = .ok (.invokevirtual 127, 3) := by decide +kernel
theorem dL_law_765 : decode cL_law 765 = .ok (.if_icmp .eq 514, 3) := by decide +kernel
theorem dL_law_768 : decode cL_law 768 = .ok (.iconst 0, 1) := by decide +kernel
theorem dL_law_769 : decode cL_law 769 = .ok (.ireturn, 1) := by decide +kernel
theorem dL_law_770 : decode cL_law 770 = .ok (.aload_n 1, 1) := by decide +kernel
theorem dL_law_771 : decode cL_law 771 = .ok (.invokevirtual 128, 3) := by decide +kernel
theorem dL_law_774 : decode cL_law 774 = .ok (.aload_n 2, 1) := by decide +kernel
theorem dL_law_775 : decode cL_law 775 = .ok (.invokevirtual 131, 3) := by decide +kernel
theorem dL_law_778 : decode cL_law 778 = .ok (.if_icmp .eq 501, 3) := by decide +kernel
theorem dL_law_781 : decode cL_law 781 = .ok (.iconst 0, 1) := by decide +kernel
theorem dL_law_782 : decode cL_law 782 = .ok (.ireturn, 1) := by decide +kernel
theorem dL_law_783 : decode cL_law 783 = .ok (.aload_n 1, 1) := by decide +kernel
theorem dL_law_784 : decode cL_law 784 = .ok (.aload_n 0, 1) := by decide +kernel
theorem dL_law_785 : decode cL_law 785 = .ok (.iload 5, 2) := by decide +kernel
theorem dL_law_787 : decode cL_law 787 = .ok (.iconst 1, 1) := by decide +kernel
theorem dL_law_788 : decode cL_law 788 = .ok (.iadd, 1) := by decide +kernel
theorem dL_law_789 : decode cL_law 789 = .ok (.iaload, 1) := by decide +kernel
theorem dL_law_790 : decode cL_law 790 = .ok (.aload_n 0, 1) := by decide +kernel
theorem dL_law_791 : decode cL_law 791 = .ok (.iload 5, 2) := by decide +kernel
theorem dL_law_793 : decode cL_law 793 = .ok (.iconst 2, 1) := by decide +kernel
theorem dL_law_794 : decode cL_law 794 = .ok (.iadd, 1) := by decide +kernel
theorem dL_law_795 : decode cL_law 795 = .ok (.iaload, 1) := by decide +kernel
theorem dL_law_796 : decode cL_law 796 = .ok (.ifCond .eq 7, 3) := by decide +kernel
theorem dL_law_799 : decode cL_law 799 = .ok (.iconst 1, 1) := by decide +kernel
theorem dL_law_800 : decode cL_law 800 = .ok (.goto 4, 3) := by decide +kernel
theorem dL_law_803 : decode cL_law 803 = .ok (.iconst 0, 1) := by decide +kernel
theorem dL_law_804 : decode cL_law 804 = .ok (.aload_n 0, 1) := by decide +kernel
theorem dL_law_805 : decode cL_law 805 = .ok (.iload 5, 2) := by decide +kernel
theorem dL_law_807 : decode cL_law 807 = .ok (.iconst 3, 1) := by decide +kernel
theorem dL_law_808 : decode cL_law 808 = .ok (.iadd, 1) := by decide +kernel
theorem dL_law_809 : decode cL_law 809 = .ok (.iaload, 1) := by decide +kernel
theorem dL_law_810 : decode cL_law 810 = .ok (.invokestatic 132, 3) := by decide +kernel
theorem dL_law_813 : decode cL_law 813 = .ok (.istore 6, 2) := by decide +kernel
theorem dL_law_815 : decode cL_law 815 = .ok (.aload_n 2, 1) := by decide +kernel
theorem dL_law_816 : decode cL_law 816 = .ok (.aload_n 0, 1) := by decide +kernel
theorem dL_law_817 : decode cL_law 817 = .ok (.iload 5, 2) := by decide +kernel
theorem dL_law_819 : decode cL_law 819 = .ok (.iconst 1, 1) := by decide +kernel
theorem dL_law_820 : decode cL_law 820 = .ok (.iadd, 1) := by decide +kernel
theorem dL_law_821 : decode cL_law 821 = .ok (.iaload, 1) := by decide +kernel
theorem dL_law_822 : decode cL_law 822 = .ok (.aload_n 0, 1) := by decide +kernel
theorem dL_law_823 : decode cL_law 823 = .ok (.iload 5, 2) := by decide +kernel
theorem dL_law_825 : decode cL_law 825 = .ok (.iconst 2, 1) := by decide +kernel
theorem dL_law_826 : decode cL_law 826 = .ok (.iadd, 1) := by decide +kernel
theorem dL_law_827 : decode cL_law 827 = .ok (.iaload, 1) := by decide +kernel
theorem dL_law_828 : decode cL_law 828 = .ok (.ifCond .eq 7, 3) := by decide +kernel
theorem dL_law_831 : decode cL_law 831 = .ok (.iconst 1, 1) := by decide +kernel
theorem dL_law_832 : decode cL_law 832 = .ok (.goto 4, 3) := by decide +kernel
theorem dL_law_835 : decode cL_law 835 = .ok (.iconst 0, 1) := by decide +kernel
theorem dL_law_836 : decode cL_law 836 = .ok (.aload_n 0, 1) := by decide +kernel
theorem dL_law_837 : decode cL_law 837 = .ok (.iload 5, 2) := by decide +kernel
theorem dL_law_839 : decode cL_law 839 = .ok (.iconst 3, 1) := by decide +kernel
theorem dL_law_840 : decode cL_law 840 = .ok (.iadd, 1) := by decide +kernel
theorem dL_law_841 : decode cL_law 841 = .ok (.iaload, 1) := by decide +kernel
theorem dL_law_842 : decode cL_law 842 = .ok (.invokevirtual 135, 3) := by decide +kernel
theorem dL_law_845 : decode cL_law 845 = .ok (.aload_n 2, 1) := by decide +kernel
theorem dL_law_846 : decode cL_law 846 = .ok (.invokevirtual 83, 3) := by decide +kernel
theorem dL_law_849 : decode cL_law 849 = .ok (.iload 6, 2) := by decide +kernel
theorem dL_law_851 : decode cL_law 851 = .ok (.if_icmp .eq 5, 3) := by decide +kernel
theorem dL_law_854 : decode cL_law 854 = .ok (.iconst 0, 1) := by decide +kernel
theorem dL_law_855 : decode cL_law 855 = .ok (.ireturn, 1) := by decide +kernel
theorem dL_law_856 : decode cL_law 856 = .ok (.goto 423, 3) := by decide +kernel
theorem dL_law_859 : decode cL_law 859 = .ok (.aload_n 1, 1) := by decide +kernel
theorem dL_law_860 : decode cL_law 860 = .ok (.aload_n 0, 1) := by decide +kernel
theorem dL_law_861 : decode cL_law 861 = .ok (.iload 5, 2) := by decide +kernel
theorem dL_law_863 : decode cL_law 863 = .ok (.iconst 1, 1) := by decide +kernel
theorem dL_law_864 : decode cL_law 864 = .ok (.iadd, 1) := by decide +kernel
theorem dL_law_865 : decode cL_law 865 = .ok (.iaload, 1) := by decide +kernel
theorem dL_law_866 : decode cL_law 866 = .ok (.aload_n 0, 1) := by decide +kernel
theorem dL_law_867 : decode cL_law 867 = .ok (.iload 5, 2) := by decide +kernel
theorem dL_law_869 : decode cL_law 869 = .ok (.iconst 2, 1) := by decide +kernel
theorem dL_law_870 : decode cL_law 870 = .ok (.iadd, 1) := by decide +kernel
theorem dL_law_871 : decode cL_law 871 = .ok (.iaload, 1) := by decide +kernel
theorem dL_law_872 : decode cL_law 872 = .ok (.aload_n 0, 1) := by decide +kernel
theorem dL_law_873 : decode cL_law 873 = .ok (.iload 5, 2) := by decide +kernel
theorem dL_law_875 : decode cL_law 875 = .ok (.iconst 3, 1) := by decide +kernel
theorem dL_law_876 : decode cL_law 876 = .ok (.iadd, 1) := by decide +kernel
theorem dL_law_877 : decode cL_law 877 = .ok (.iaload, 1) := by decide +kernel
theorem dL_law_878 : decode cL_law 878 = .ok (.ifCond .eq 7, 3) := by decide +kernel
theorem dL_law_881 : decode cL_law 881 = .ok (.iconst 1, 1) := by decide +kernel
theorem dL_law_882 : decode cL_law 882 = .ok (.goto 4, 3) := by decide +kernel
theorem dL_law_885 : decode cL_law 885 = .ok (.iconst 0, 1) := by decide +kernel
theorem dL_law_886 : decode cL_law 886 = .ok (.aload_n 3, 1) := by decide +kernel
theorem dL_law_887 : decode cL_law 887 = .ok (.invokestatic 136, 3) := by decide +kernel
theorem dL_law_890 : decode cL_law 890 = .ok (.istore 6, 2) := by decide +kernel
theorem dL_law_892 : decode cL_law 892 = .ok (.aload_n 2, 1) := by decide +kernel
theorem dL_law_893 : decode cL_law 893 = .ok (.aload_n 0, 1) := by decide +kernel
theorem dL_law_894 : decode cL_law 894 = .ok (.iload 5, 2) := by decide +kernel
theorem dL_law_896 : decode cL_law 896 = .ok (.iconst 1, 1) := by decide +kernel
theorem dL_law_897 : decode cL_law 897 = .ok (.iadd, 1) := by decide +kernel
theorem dL_law_898 : decode cL_law 898 = .ok (.iaload, 1) := by decide +kernel
theorem dL_law_899 : decode cL_law 899 = .ok (.aload_n 0, 1) := by decide +kernel
theorem dL_law_900 : decode cL_law 900 = .ok (.iload 5, 2) := by decide +kernel
theorem dL_law_902 : decode cL_law 902 = .ok (.iconst 2, 1) := by decide +kernel
theorem dL_law_903 : decode cL_law 903 = .ok (.iadd, 1) := by decide +kernel
theorem dL_law_904 : decode cL_law 904 = .ok (.iaload, 1) := by decide +kernel
theorem dL_law_905 : decode cL_law 905 = .ok (.aload_n 0, 1) := by decide +kernel
theorem dL_law_906 : decode cL_law 906 = .ok (.iload 5, 2) := by decide +kernel
theorem dL_law_908 : decode cL_law 908 = .ok (.iconst 3, 1) := by decide +kernel
theorem dL_law_909 : decode cL_law 909 = .ok (.iadd, 1) := by decide +kernel
theorem dL_law_910 : decode cL_law 910 = .ok (.iaload, 1) := by decide +kernel
theorem dL_law_911 : decode cL_law 911 = .ok (.ifCond .eq 7, 3) := by decide +kernel
theorem dL_law_914 : decode cL_law 914 = .ok (.iconst 1, 1) := by decide +kernel
theorem dL_law_915 : decode cL_law 915 = .ok (.goto 4, 3) := by decide +kernel
theorem dL_law_918 : decode cL_law 918 = .ok (.iconst 0, 1) := by decide +kernel
theorem dL_law_919 : decode cL_law 919 = .ok (.invokevirtual 139, 3) := by decide +kernel
theorem dL_law_922 : decode cL_law 922 = .ok (.istore 7, 2) := by decide +kernel
theorem dL_law_924 : decode cL_law 924 = .ok (.aload_n 2, 1) := by decide +kernel
theorem dL_law_925 : decode cL_law 925 = .ok (.invokevirtual 83, 3) := by decide +kernel
theorem dL_law_928 : decode cL_law 928 = .ok (.iload 6, 2) := by decide +kernel
theorem dL_law_930 : decode cL_law 930 = .ok (.if_icmp .eq 5, 3) := by decide +kernel
theorem dL_law_933 : decode cL_law 933 = .ok (.iconst 0, 1) := by decide +kernel
theorem dL_law_934 : decode cL_law 934 = .ok (.ireturn, 1) := by decide +kernel
theorem dL_law_935 : decode cL_law 935 = .ok (.iload 6, 2) := by decide +kernel
theorem dL_law_937 : decode cL_law 937 = .ok (.ifCond .ne 15, 3) := by decide +kernel
theorem dL_law_940 : decode cL_law 940 = .ok (.aload_n 3, 1) := by decide +kernel
theorem dL_law_941 : decode cL_law 941 = .ok (.iconst 0, 1) := by decide +kernel
theorem dL_law_942 : decode cL_law 942 = .ok (.laload, 1) := by decide +kernel
theorem dL_law_943 : decode cL_law 943 = .ok (.iload 7, 2) := by decide +kernel
theorem dL_law_945 : decode cL_law 945 = .ok (.i2l, 1) := by decide +kernel
theorem dL_law_946 : decode cL_law 946 = .ok (.lcmp, 1) := by decide +kernel
theorem dL_law_947 : decode cL_law 947 = .ok (.ifCond .eq 5, 3) := by decide +kernel
theorem dL_law_950 : decode cL_law 950 = .ok (.iconst 0, 1) := by decide +kernel
theorem dL_law_951 : decode cL_law 951 = .ok (.ireturn, 1) := by decide +kernel
theorem dL_law_952 : decode cL_law 952 = .ok (.goto 327, 3) := by decide +kernel
theorem dL_law_955 : decode cL_law 955 = .ok (.aload_n 1, 1) := by decide +kernel
theorem dL_law_956 : decode cL_law 956 = .ok (.aload_n 0, 1) := by decide +kernel
theorem dL_law_957 : decode cL_law 957 = .ok (.iload 5, 2) := by decide +kernel
theorem dL_law_959 : decode cL_law 959 = .ok (.iconst 1, 1) := by decide +kernel
theorem dL_law_960 : decode cL_law 960 = .ok (.iadd, 1) := by decide +kernel
theorem dL_law_961 : decode cL_law 961 = .ok (.iaload, 1) := by decide +kernel
theorem dL_law_962 : decode cL_law 962 = .ok (.aload_n 3, 1) := by decide +kernel
theorem dL_law_963 : decode cL_law 963 = .ok (.invokestatic 140, 3) := by decide +kernel
theorem dL_law_966 : decode cL_law 966 = .ok (.istore 6, 2) := by decide +kernel
theorem dL_law_968 : decode cL_law 968 = .ok (.aload_n 2, 1) := by decide +kernel
theorem dL_law_969 : decode cL_law 969 = .ok (.aload_n 0, 1) := by decide +kernel
theorem dL_law_970 : decode cL_law 970 = .ok (.iload 5, 2) := by decide +kernel
theorem dL_law_972 : decode cL_law 972 = .ok (.iconst 1, 1) := by decide +kernel
theorem dL_law_973 : decode cL_law 973 = .ok (.iadd, 1) := by decide +kernel
theorem dL_law_974 : decode cL_law 974 = .ok (.iaload, 1) := by decide +kernel
theorem dL_law_975 : decode cL_law 975 = .ok (.invokevirtual 142, 3) := by decide +kernel
theorem dL_law_978 : decode cL_law 978 = .ok (.istore 7, 2) := by decide +kernel
theorem dL_law_980 : decode cL_law 980 = .ok (.aload_n 2, 1) := by decide +kernel
theorem dL_law_981 : decode cL_law 981 = .ok (.invokevirtual 83, 3) := by decide +kernel
theorem dL_law_984 : decode cL_law 984 = .ok (.iload 6, 2) := by decide +kernel
theorem dL_law_986 : decode cL_law 986 = .ok (.if_icmp .eq 5, 3) := by decide +kernel
theorem dL_law_989 : decode cL_law 989 = .ok (.iconst 0, 1) := by decide +kernel
theorem dL_law_990 : decode cL_law 990 = .ok (.ireturn, 1) := by decide +kernel
theorem dL_law_991 : decode cL_law 991 = .ok (.iload 6, 2) := by decide +kernel
theorem dL_law_993 : decode cL_law 993 = .ok (.ifCond .ne 15, 3) := by decide +kernel
theorem dL_law_996 : decode cL_law 996 = .ok (.aload_n 3, 1) := by decide +kernel
theorem dL_law_997 : decode cL_law 997 = .ok (.iconst 0, 1) := by decide +kernel
theorem dL_law_998 : decode cL_law 998 = .ok (.laload, 1) := by decide +kernel
theorem dL_law_999 : decode cL_law 999 = .ok (.iload 7, 2) := by decide +kernel
theorem dL_law_1001 : decode cL_law 1001 = .ok (.i2l, 1) := by decide +kernel
theorem dL_law_1002 : decode cL_law 1002 = .ok (.lcmp, 1) := by decide +kernel
theorem dL_law_1003 : decode cL_law 1003 = .ok (.ifCond .eq 5, 3) := by decide +kernel
theorem dL_law_1006 : decode cL_law 1006 = .ok (.iconst 0, 1) := by decide +kernel
theorem dL_law_1007 : decode cL_law 1007 = .ok (.ireturn, 1) := by decide +kernel
theorem dL_law_1008 : decode cL_law 1008 = .ok (.goto 271, 3) := by decide +kernel
theorem dL_law_1011 : decode cL_law 1011 = .ok (.aload_n 1, 1) := by decide +kernel
theorem dL_law_1012 : decode cL_law 1012 = .ok (.aload_n 0, 1) := by decide +kernel
theorem dL_law_1013 : decode cL_law 1013 = .ok (.iload 5, 2) := by decide +kernel
theorem dL_law_1015 : decode cL_law 1015 = .ok (.iconst 1, 1) := by decide +kernel
theorem dL_law_1016 : decode cL_law 1016 = .ok (.iadd, 1) := by decide +kernel
theorem dL_law_1017 : decode cL_law 1017 = .ok (.iaload, 1) := by decide +kernel
theorem dL_law_1018 : decode cL_law 1018 = .ok (.aload_n 3, 1) := by decide +kernel
theorem dL_law_1019 : decode cL_law 1019 = .ok (.invokestatic 143, 3) := by decide +kernel
theorem dL_law_1022 : decode cL_law 1022 = .ok (.istore 6, 2) := by decide +kernel
theorem dL_law_1024 : decode cL_law 1024 = .ok (.aload_n 2, 1) := by decide +kernel
theorem dL_law_1025 : decode cL_law 1025 = .ok (.aload_n 0, 1) := by decide +kernel
theorem dL_law_1026 : decode cL_law 1026 = .ok (.iload 5, 2) := by decide +kernel
theorem dL_law_1028 : decode cL_law 1028 = .ok (.iconst 1, 1) := by decide +kernel
theorem dL_law_1029 : decode cL_law 1029 = .ok (.iadd, 1) := by decide +kernel
theorem dL_law_1030 : decode cL_law 1030 = .ok (.iaload, 1) := by decide +kernel
theorem dL_law_1031 : decode cL_law 1031 = .ok (.invokevirtual 145, 3) := by decide +kernel
theorem dL_law_1034 : decode cL_law 1034 = .ok (.istore 7, 2) := by decide +kernel
theorem dL_law_1036 : decode cL_law 1036 = .ok (.aload_n 2, 1) := by decide +kernel
theorem dL_law_1037 : decode cL_law 1037 = .ok (.invokevirtual 83, 3) := by decide +kernel
theorem dL_law_1040 : decode cL_law 1040 = .ok (.iload 6, 2) := by decide +kernel
theorem dL_law_1042 : decode cL_law 1042 = .ok (.if_icmp .eq 5, 3) := by decide +kernel
theorem dL_law_1045 : decode cL_law 1045 = .ok (.iconst 0, 1) := by decide +kernel
theorem dL_law_1046 : decode cL_law 1046 = .ok (.ireturn, 1) := by decide +kernel
theorem dL_law_1047 : decode cL_law 1047 = .ok (.iload 6, 2) := by decide +kernel
theorem dL_law_1049 : decode cL_law 1049 = .ok (.ifCond .ne 15, 3) := by decide +kernel
theorem dL_law_1052 : decode cL_law 1052 = .ok (.aload_n 3, 1) := by decide +kernel
theorem dL_law_1053 : decode cL_law 1053 = .ok (.iconst 0, 1) := by decide +kernel
theorem dL_law_1054 : decode cL_law 1054 = .ok (.laload, 1) := by decide +kernel
theorem dL_law_1055 : decode cL_law 1055 = .ok (.iload 7, 2) := by decide +kernel
theorem dL_law_1057 : decode cL_law 1057 = .ok (.i2l, 1) := by decide +kernel
theorem dL_law_1058 : decode cL_law 1058 = .ok (.lcmp, 1) := by decide +kernel
theorem dL_law_1059 : decode cL_law 1059 = .ok (.ifCond .eq 5, 3) := by decide +kernel
theorem dL_law_1062 : decode cL_law 1062 = .ok (.iconst 0, 1) := by decide +kernel
theorem dL_law_1063 : decode cL_law 1063 = .ok (.ireturn, 1) := by decide +kernel
theorem dL_law_1064 : decode cL_law 1064 = .ok (.goto 215, 3) := by decide +kernel
theorem dL_law_1067 : decode cL_law 1067 = .ok (.aload_n 1, 1) := by decide +kernel
theorem dL_law_1068 : decode cL_law 1068 = .ok (.aload_n 0, 1) := by decide +kernel
theorem dL_law_1069 : decode cL_law 1069 = .ok (.iload 5, 2) := by decide +kernel
theorem dL_law_1071 : decode cL_law 1071 = .ok (.iconst 1, 1) := by decide +kernel
theorem dL_law_1072 : decode cL_law 1072 = .ok (.iadd, 1) := by decide +kernel
theorem dL_law_1073 : decode cL_law 1073 = .ok (.iaload, 1) := by decide +kernel
theorem dL_law_1074 : decode cL_law 1074 = .ok (.aload 4, 2) := by decide +kernel
theorem dL_law_1076 : decode cL_law 1076 = .ok (.invokestatic 146, 3) := by decide +kernel
theorem dL_law_1079 : decode cL_law 1079 = .ok (.istore 6, 2) := by decide +kernel
theorem dL_law_1081 : decode cL_law 1081 = .ok (.aload_n 2, 1) := by decide +kernel
theorem dL_law_1082 : decode cL_law 1082 = .ok (.aload_n 0, 1) := by decide +kernel
theorem dL_law_1083 : decode cL_law 1083 = .ok (.iload 5, 2) := by decide +kernel
theorem dL_law_1085 : decode cL_law 1085 = .ok (.iconst 1, 1) := by decide +kernel
theorem dL_law_1086 : decode cL_law 1086 = .ok (.iadd, 1) := by decide +kernel
theorem dL_law_1087 : decode cL_law 1087 = .ok (.iaload, 1) := by decide +kernel
theorem dL_law_1088 : decode cL_law 1088 = .ok (.invokevirtual 149, 3) := by decide +kernel
theorem dL_law_1091 : decode cL_law 1091 = .ok (.dstore 7, 2) := by decide +kernel
theorem dL_law_1093 : decode cL_law 1093 = .ok (.aload_n 2, 1) := by decide +kernel
theorem dL_law_1094 : decode cL_law 1094 = .ok (.invokevirtual 83, 3) := by decide +kernel
theorem dL_law_1097 : decode cL_law 1097 = .ok (.iload 6, 2) := by decide +kernel
theorem dL_law_1099 : decode cL_law 1099 = .ok (.if_icmp .eq 5, 3) := by decide +kernel
theorem dL_law_1102 : decode cL_law 1102 = .ok (.iconst 0, 1) := by decide +kernel
theorem dL_law_1103 : decode cL_law 1103 = .ok (.ireturn, 1) := by decide +kernel
theorem dL_law_1104 : decode cL_law 1104 = .ok (.iload 6, 2) := by decide +kernel
theorem dL_law_1106 : decode cL_law 1106 = .ok (.ifCond .ne 35, 3) := by decide +kernel
theorem dL_law_1109 : decode cL_law 1109 = .ok (.aload 4, 2) := by decide +kernel
theorem dL_law_1111 : decode cL_law 1111 = .ok (.iconst 0, 1) := by decide +kernel
theorem dL_law_1112 : decode cL_law 1112 = .ok (.daload, 1) := by decide +kernel
theorem dL_law_1113 : decode cL_law 1113 = .ok (.dload 7, 2) := by decide +kernel
theorem dL_law_1115 : decode cL_law 1115 = .ok (.dcmp .l, 1) := by decide +kernel
theorem dL_law_1116 : decode cL_law 1116 = .ok (.ifCond .eq 25, 3) := by decide +kernel
theorem dL_law_1119 : decode cL_law 1119 = .ok (.aload 4, 2) := by decide +kernel
theorem dL_law_1121 : decode cL_law 1121 = .ok (.iconst 0, 1) := by decide +kernel
theorem dL_law_1122 : decode cL_law 1122 = .ok (.daload, 1) := by decide +kernel
theorem dL_law_1123 : decode cL_law 1123 = .ok (.aload 4, 2) := by decide +kernel
theorem dL_law_1125 : decode cL_law 1125 = .ok (.iconst 0, 1) := by decide +kernel
theorem dL_law_1126 : decode cL_law 1126 = .ok (.daload, 1) := by decide +kernel
theorem dL_law_1127 : decode cL_law 1127 = .ok (.dcmp .l, 1) := by decide +kernel
theorem dL_law_1128 : decode cL_law 1128 = .ok (.ifCond .eq 11, 3) := by decide +kernel
theorem dL_law_1131 : decode cL_law 1131 = .ok (.dload 7, 2) := by decide +kernel
theorem dL_law_1133 : decode cL_law 1133 = .ok (.dload 7, 2) := by decide +kernel
theorem dL_law_1135 : decode cL_law 1135 = .ok (.dcmp .l, 1) := by decide +kernel
theorem dL_law_1136 : decode cL_law 1136 = .ok (.ifCond .ne 5, 3) := by decide +kernel
theorem dL_law_1139 : decode cL_law 1139 = .ok (.iconst 0, 1) := by decide +kernel
theorem dL_law_1140 : decode cL_law 1140 = .ok (.ireturn, 1) := by decide +kernel
theorem dL_law_1141 : decode cL_law 1141 = .ok (.goto 138, 3) := by decide +kernel
theorem dL_law_1144 : decode cL_law 1144 = .ok (.aload_n 1, 1) := by decide +kernel
theorem dL_law_1145 : decode cL_law 1145 = .ok (.invokevirtual 150, 3) := by decide +kernel
theorem dL_law_1148 : decode cL_law 1148 = .ok (.aload_n 2, 1) := by decide +kernel
theorem dL_law_1149 : decode cL_law 1149 = .ok (.invokevirtual 153, 3) := by decide +kernel
theorem dL_law_1152 : decode cL_law 1152 = .ok (.if_icmp .eq 127, 3) := by decide +kernel
theorem dL_law_1155 : decode cL_law 1155 = .ok (.iconst 0, 1) := by decide +kernel
theorem dL_law_1156 : decode cL_law 1156 = .ok (.ireturn, 1) := by decide +kernel
theorem dL_law_1157 : decode cL_law 1157 = .ok (.aload_n 1, 1) := by decide +kernel
theorem dL_law_1158 : decode cL_law 1158 = .ok (.aload_n 0, 1) := by decide +kernel
theorem dL_law_1159 : decode cL_law 1159 = .ok (.iload 5, 2) := by decide +kernel
theorem dL_law_1161 : decode cL_law 1161 = .ok (.iconst 1, 1) := by decide +kernel
theorem dL_law_1162 : decode cL_law 1162 = .ok (.iadd, 1) := by decide +kernel
theorem dL_law_1163 : decode cL_law 1163 = .ok (.iaload, 1) := by decide +kernel
theorem dL_law_1164 : decode cL_law 1164 = .ok (.ifCond .eq 7, 3) := by decide +kernel
theorem dL_law_1167 : decode cL_law 1167 = .ok (.iconst 1, 1) := by decide +kernel
theorem dL_law_1168 : decode cL_law 1168 = .ok (.goto 4, 3) := by decide +kernel
theorem dL_law_1171 : decode cL_law 1171 = .ok (.iconst 0, 1) := by decide +kernel
theorem dL_law_1172 : decode cL_law 1172 = .ok (.invokevirtual 154, 3) := by decide +kernel
theorem dL_law_1175 : decode cL_law 1175 = .ok (.aload_n 2, 1) := by decide +kernel
theorem dL_law_1176 : decode cL_law 1176 = .ok (.aload_n 0, 1) := by decide +kernel
theorem dL_law_1177 : decode cL_law 1177 = .ok (.iload 5, 2) := by decide +kernel
theorem dL_law_1179 : decode cL_law 1179 = .ok (.iconst 1, 1) := by decide +kernel
theorem dL_law_1180 : decode cL_law 1180 = .ok (.iadd, 1) := by decide +kernel
theorem dL_law_1181 : decode cL_law 1181 = .ok (.iaload, 1) := by decide +kernel
theorem dL_law_1182 : decode cL_law 1182 = .ok (.ifCond .eq 7, 3) := by decide +kernel
theorem dL_law_1185 : decode cL_law 1185 = .ok (.iconst 1, 1) := by decide +kernel
theorem dL_law_1186 : decode cL_law 1186 = .ok (.goto 4, 3) := by decide +kernel
theorem dL_law_1189 : decode cL_law 1189 = .ok (.iconst 0, 1) := by decide +kernel
theorem dL_law_1190 : decode cL_law 1190 = .ok (.invokevirtual 158, 3) := by decide +kernel
theorem dL_law_1193 : decode cL_law 1193 = .ok (.if_icmp .eq 86, 3) := by decide +kernel
theorem dL_law_1196 : decode cL_law 1196 = .ok (.iconst 0, 1) := by decide +kernel
theorem dL_law_1197 : decode cL_law 1197 = .ok (.ireturn, 1) := by decide +kernel
theorem dL_law_1198 : decode cL_law 1198 = .ok (.aload_n 1, 1) := by decide +kernel
theorem dL_law_1199 : decode cL_law 1199 = .ok (.invokevirtual 159, 3) := by decide +kernel
theorem dL_law_1202 : decode cL_law 1202 = .ok (.aload_n 2, 1) := by decide +kernel
theorem dL_law_1203 : decode cL_law 1203 = .ok (.invokevirtual 162, 3) := by decide +kernel
theorem dL_law_1206 : decode cL_law 1206 = .ok (.if_icmp .eq 73, 3) := by decide +kernel
theorem dL_law_1209 : decode cL_law 1209 = .ok (.iconst 0, 1) := by decide +kernel
theorem dL_law_1210 : decode cL_law 1210 = .ok (.ireturn, 1) := by decide +kernel
theorem dL_law_1211 : decode cL_law 1211 = .ok (.aload_n 1, 1) := by decide +kernel
theorem dL_law_1212 : decode cL_law 1212 = .ok (.aload_n 0, 1) := by decide +kernel
theorem dL_law_1213 : decode cL_law 1213 = .ok (.iload 5, 2) := by decide +kernel
theorem dL_law_1215 : decode cL_law 1215 = .ok (.iconst 1, 1) := by decide +kernel
theorem dL_law_1216 : decode cL_law 1216 = .ok (.iadd, 1) := by decide +kernel
theorem dL_law_1217 : decode cL_law 1217 = .ok (.iaload, 1) := by decide +kernel
theorem dL_law_1218 : decode cL_law 1218 = .ok (.aload_n 0, 1) := by decide +kernel
theorem dL_law_1219 : decode cL_law 1219 = .ok (.iload 5, 2) := by decide +kernel
theorem dL_law_1221 : decode cL_law 1221 = .ok (.iconst 2, 1) := by decide +kernel
theorem dL_law_1222 : decode cL_law 1222 = .ok (.iadd, 1) := by decide +kernel
theorem dL_law_1223 : decode cL_law 1223 = .ok (.iaload, 1) := by decide +kernel
theorem dL_law_1224 : decode cL_law 1224 = .ok (.aload_n 3, 1) := by decide +kernel
theorem dL_law_1225 : decode cL_law 1225 = .ok (.invokestatic 163, 3) := by decide +kernel
theorem dL_law_1228 : decode cL_law 1228 = .ok (.istore 6, 2) := by decide +kernel
theorem dL_law_1230 : decode cL_law 1230 = .ok (.aload_n 2, 1) := by decide +kernel
theorem dL_law_1231 : decode cL_law 1231 = .ok (.aload_n 0, 1) := by decide +kernel
theorem dL_law_1232 : decode cL_law 1232 = .ok (.iload 5, 2) := by decide +kernel
theorem dL_law_1234 : decode cL_law 1234 = .ok (.iconst 1, 1) := by decide +kernel
theorem dL_law_1235 : decode cL_law 1235 = .ok (.iadd, 1) := by decide +kernel
theorem dL_law_1236 : decode cL_law 1236 = .ok (.iaload, 1) := by decide +kernel
theorem dL_law_1237 : decode cL_law 1237 = .ok (.aload_n 0, 1) := by decide +kernel
theorem dL_law_1238 : decode cL_law 1238 = .ok (.iload 5, 2) := by decide +kernel
theorem dL_law_1240 : decode cL_law 1240 = .ok (.iconst 2, 1) := by decide +kernel
theorem dL_law_1241 : decode cL_law 1241 = .ok (.iadd, 1) := by decide +kernel
theorem dL_law_1242 : decode cL_law 1242 = .ok (.iaload, 1) := by decide +kernel
theorem dL_law_1243 : decode cL_law 1243 = .ok (.invokevirtual 165, 3) := by decide +kernel
theorem dL_law_1246 : decode cL_law 1246 = .ok (.istore 7, 2) := by decide +kernel
theorem dL_law_1248 : decode cL_law 1248 = .ok (.aload_n 2, 1) := by decide +kernel
theorem dL_law_1249 : decode cL_law 1249 = .ok (.invokevirtual 83, 3) := by decide +kernel
theorem dL_law_1252 : decode cL_law 1252 = .ok (.iload 6, 2) := by decide +kernel
theorem dL_law_1254 : decode cL_law 1254 = .ok (.if_icmp .eq 5, 3) := by decide +kernel
theorem dL_law_1257 : decode cL_law 1257 = .ok (.iconst 0, 1) := by decide +kernel
theorem dL_law_1258 : decode cL_law 1258 = .ok (.ireturn, 1) := by decide +kernel
theorem dL_law_1259 : decode cL_law 1259 = .ok (.iload 6, 2) := by decide +kernel
theorem dL_law_1261 : decode cL_law 1261 = .ok (.ifCond .ne 15, 3) := by decide +kernel
theorem dL_law_1264 : decode cL_law 1264 = .ok (.aload_n 3, 1) := by decide +kernel
theorem dL_law_1265 : decode cL_law 1265 = .ok (.iconst 0, 1) := by decide +kernel
theorem dL_law_1266 : decode cL_law 1266 = .ok (.laload, 1) := by decide +kernel
theorem dL_law_1267 : decode cL_law 1267 = .ok (.iload 7, 2) := by decide +kernel
theorem dL_law_1269 : decode cL_law 1269 = .ok (.i2l, 1) := by decide +kernel
theorem dL_law_1270 : decode cL_law 1270 = .ok (.lcmp, 1) := by decide +kernel
theorem dL_law_1271 : decode cL_law 1271 = .ok (.ifCond .eq 5, 3) := by decide +kernel
theorem dL_law_1274 : decode cL_law 1274 = .ok (.iconst 0, 1) := by decide +kernel
theorem dL_law_1275 : decode cL_law 1275 = .ok (.ireturn, 1) := by decide +kernel
theorem dL_law_1276 : decode cL_law 1276 = .ok (.goto 3, 3) := by decide +kernel
theorem dL_law_1279 : decode cL_law 1279 = .ok (.iinc 5 5, 3) := by decide +kernel
theorem dL_law_1282 : decode cL_law 1282 = .ok (.goto (-1254), 3) := by decide +kernel
theorem dL_law_1285 : decode cL_law 1285 = .ok (.iconst 1, 1) := by decide +kernel
theorem dL_law_1286 : decode cL_law 1286 = .ok (.ireturn, 1) := by decide +kernel
end
section
/-! ===== the pool: the kind of every address, and what its fields or places hold, a function a sort ===== -/
abbrev Sw : Type := (Nat → Nat) × (Nat → Nat → Int32) × (Nat → Nat → Int64) × (Nat → Nat → Option Nat) × (Nat → Nat) × (Nat → Nat → Int32) × (Nat → Nat → Option Nat) × (Nat → Nat → UInt64) × (Nat → Nat → Int64)
def sK (S : Sw) (a : Nat) : Nat := S.1 a
def fI (S : Sw) (f a : Nat) : Int32 := S.2.1 f a
def fJ (S : Sw) (f a : Nat) : Int64 := S.2.2.1 f a
def fR (S : Sw) (f a : Nat) : Option Nat := S.2.2.2.1 f a
def aN (S : Sw) (a : Nat) : Nat := S.2.2.2.2.1 a
def aI (S : Sw) (a i : Nat) : Int32 := S.2.2.2.2.2.1 a i
def aR (S : Sw) (a i : Nat) : Option Nat := S.2.2.2.2.2.2.1 a i
def aD (S : Sw) (a i : Nat) : UInt64 := S.2.2.2.2.2.2.2.1 a i
def aJ (S : Sw) (a i : Nat) : Int64 := S.2.2.2.2.2.2.2.2 a i
def up2 {α : Type} (F : Nat → Nat → α) (f a : Nat) (v : α) : Nat → Nat → α := fun g b => if g = f ∧ b = a then v else F g b
def uI (S : Sw) (f a : Nat) (v : Int32) : Sw := (S.1, up2 S.2.1 f a v, S.2.2)
def uJ (S : Sw) (f a : Nat) (v : Int64) : Sw := (S.1, S.2.1, up2 S.2.2.1 f a v, S.2.2.2)
def uR (S : Sw) (f a : Nat) (v : Option Nat) : Sw := (S.1, S.2.1, S.2.2.1, up2 S.2.2.2.1 f a v, S.2.2.2.2)
def wI (S : Sw) (a i : Nat) (v : Int32) : Sw := (S.1, S.2.1, S.2.2.1, S.2.2.2.1, S.2.2.2.2.1, up2 S.2.2.2.2.2.1 a i v, S.2.2.2.2.2.2)
def wR (S : Sw) (a i : Nat) (v : Option Nat) : Sw := (S.1, S.2.1, S.2.2.1, S.2.2.2.1, S.2.2.2.2.1, S.2.2.2.2.2.1, up2 S.2.2.2.2.2.2.1 a i v, S.2.2.2.2.2.2.2)
def wD (S : Sw) (a i : Nat) (v : UInt64) : Sw := (S.1, S.2.1, S.2.2.1, S.2.2.2.1, S.2.2.2.2.1, S.2.2.2.2.2.1, S.2.2.2.2.2.2.1, up2 S.2.2.2.2.2.2.2.1 a i v, S.2.2.2.2.2.2.2.2)
def wJ (S : Sw) (a i : Nat) (v : Int64) : Sw := (S.1, S.2.1, S.2.2.1, S.2.2.2.1, S.2.2.2.2.1, S.2.2.2.2.2.1, S.2.2.2.2.2.2.1, S.2.2.2.2.2.2.2.1, up2 S.2.2.2.2.2.2.2.2 a i v)
/-- a whole row of ints anew (System.arraycopy) -/
def wIs (S : Sw) (a : Nat) (r : Nat → Int32) : Sw := (S.1, S.2.1, S.2.2.1, S.2.2.2.1, S.2.2.2.2.1, (fun b i => if b = a then r i else S.2.2.2.2.2.1 b i), S.2.2.2.2.2.2)
def z2 {α : Type} (F : Nat → Nat → α) (a : Nat) (z : α) : Nat → Nat → α := fun f b => if b = a then z else F f b
def z1 {α : Type} (F : Nat → Nat → α) (a : Nat) (z : α) : Nat → Nat → α := fun b i => if b = a then z else F b i
/-- a new object of a kind -/
def nO (S : Sw) (a k : Nat) : Sw := (va_up S.1 a k, z2 S.2.1 a 0, z2 S.2.2.1 a 0, z2 S.2.2.2.1 a none, S.2.2.2.2)
/-- a new array of a kind, of n places -/
def nA (S : Sw) (a k n : Nat) : Sw := (va_up S.1 a k, S.2.1, S.2.2.1, S.2.2.2.1, va_up S.2.2.2.2.1 a n, z1 S.2.2.2.2.2.1 a 0, z1 S.2.2.2.2.2.2.1 a none, z1 S.2.2.2.2.2.2.2.1 a FP.dconst0, z1 S.2.2.2.2.2.2.2.2 a 0)
theorem sK_uI (S : Sw) (f a : Nat) (v : Int32) (b : Nat) : sK (uI S f a v) b = sK S b := rfl
theorem fI_uI (S : Sw) (f a : Nat) (v : Int32) (g b : Nat) : fI (uI S f a v) g b = if g = f ∧ b = a then v else fI S g b := rfl
theorem fJ_uI (S : Sw) (f a : Nat) (v : Int32) (g b : Nat) : fJ (uI S f a v) g b = fJ S g b := rfl
theorem fR_uI (S : Sw) (f a : Nat) (v : Int32) (g b : Nat) : fR (uI S f a v) g b = fR S g b := rfl
theorem aN_uI (S : Sw) (f a : Nat) (v : Int32) (b : Nat) : aN (uI S f a v) b = aN S b := rfl
theorem aI_uI (S : Sw) (f a : Nat) (v : Int32) (g b : Nat) : aI (uI S f a v) g b = aI S g b := rfl
theorem aR_uI (S : Sw) (f a : Nat) (v : Int32) (g b : Nat) : aR (uI S f a v) g b = aR S g b := rfl
theorem aD_uI (S : Sw) (f a : Nat) (v : Int32) (g b : Nat) : aD (uI S f a v) g b = aD S g b := rfl
theorem aJ_uI (S : Sw) (f a : Nat) (v : Int32) (g b : Nat) : aJ (uI S f a v) g b = aJ S g b := rfl
theorem sK_uJ (S : Sw) (f a : Nat) (v : Int64) (b : Nat) : sK (uJ S f a v) b = sK S b := rfl
theorem fI_uJ (S : Sw) (f a : Nat) (v : Int64) (g b : Nat) : fI (uJ S f a v) g b = fI S g b := rfl
theorem fJ_uJ (S : Sw) (f a : Nat) (v : Int64) (g b : Nat) : fJ (uJ S f a v) g b = if g = f ∧ b = a then v else fJ S g b := rfl
theorem fR_uJ (S : Sw) (f a : Nat) (v : Int64) (g b : Nat) : fR (uJ S f a v) g b = fR S g b := rfl
theorem aN_uJ (S : Sw) (f a : Nat) (v : Int64) (b : Nat) : aN (uJ S f a v) b = aN S b := rfl
theorem aI_uJ (S : Sw) (f a : Nat) (v : Int64) (g b : Nat) : aI (uJ S f a v) g b = aI S g b := rfl
theorem aR_uJ (S : Sw) (f a : Nat) (v : Int64) (g b : Nat) : aR (uJ S f a v) g b = aR S g b := rfl
theorem aD_uJ (S : Sw) (f a : Nat) (v : Int64) (g b : Nat) : aD (uJ S f a v) g b = aD S g b := rfl
theorem aJ_uJ (S : Sw) (f a : Nat) (v : Int64) (g b : Nat) : aJ (uJ S f a v) g b = aJ S g b := rfl
theorem sK_uR (S : Sw) (f a : Nat) (v : Option Nat) (b : Nat) : sK (uR S f a v) b = sK S b := rfl
theorem fI_uR (S : Sw) (f a : Nat) (v : Option Nat) (g b : Nat) : fI (uR S f a v) g b = fI S g b := rfl
theorem fJ_uR (S : Sw) (f a : Nat) (v : Option Nat) (g b : Nat) : fJ (uR S f a v) g b = fJ S g b := rfl
theorem fR_uR (S : Sw) (f a : Nat) (v : Option Nat) (g b : Nat) : fR (uR S f a v) g b = if g = f ∧ b = a then v else fR S g b := rfl
theorem aN_uR (S : Sw) (f a : Nat) (v : Option Nat) (b : Nat) : aN (uR S f a v) b = aN S b := rfl
theorem aI_uR (S : Sw) (f a : Nat) (v : Option Nat) (g b : Nat) : aI (uR S f a v) g b = aI S g b := rfl
theorem aR_uR (S : Sw) (f a : Nat) (v : Option Nat) (g b : Nat) : aR (uR S f a v) g b = aR S g b := rfl
theorem aD_uR (S : Sw) (f a : Nat) (v : Option Nat) (g b : Nat) : aD (uR S f a v) g b = aD S g b := rfl
theorem aJ_uR (S : Sw) (f a : Nat) (v : Option Nat) (g b : Nat) : aJ (uR S f a v) g b = aJ S g b := rfl
theorem sK_wI (S : Sw) (f a : Nat) (v : Int32) (b : Nat) : sK (wI S f a v) b = sK S b := rfl
theorem fI_wI (S : Sw) (f a : Nat) (v : Int32) (g b : Nat) : fI (wI S f a v) g b = fI S g b := rfl
theorem fJ_wI (S : Sw) (f a : Nat) (v : Int32) (g b : Nat) : fJ (wI S f a v) g b = fJ S g b := rfl
theorem fR_wI (S : Sw) (f a : Nat) (v : Int32) (g b : Nat) : fR (wI S f a v) g b = fR S g b := rfl
theorem aN_wI (S : Sw) (f a : Nat) (v : Int32) (b : Nat) : aN (wI S f a v) b = aN S b := rfl
theorem aI_wI (S : Sw) (f a : Nat) (v : Int32) (g b : Nat) : aI (wI S f a v) g b = if g = f ∧ b = a then v else aI S g b := rfl
theorem aR_wI (S : Sw) (f a : Nat) (v : Int32) (g b : Nat) : aR (wI S f a v) g b = aR S g b := rfl
theorem aD_wI (S : Sw) (f a : Nat) (v : Int32) (g b : Nat) : aD (wI S f a v) g b = aD S g b := rfl
theorem aJ_wI (S : Sw) (f a : Nat) (v : Int32) (g b : Nat) : aJ (wI S f a v) g b = aJ S g b := rfl
theorem sK_wR (S : Sw) (f a : Nat) (v : Option Nat) (b : Nat) : sK (wR S f a v) b = sK S b := rfl
theorem fI_wR (S : Sw) (f a : Nat) (v : Option Nat) (g b : Nat) : fI (wR S f a v) g b = fI S g b := rfl
theorem fJ_wR (S : Sw) (f a : Nat) (v : Option Nat) (g b : Nat) : fJ (wR S f a v) g b = fJ S g b := rfl
theorem fR_wR (S : Sw) (f a : Nat) (v : Option Nat) (g b : Nat) : fR (wR S f a v) g b = fR S g b := rfl
theorem aN_wR (S : Sw) (f a : Nat) (v : Option Nat) (b : Nat) : aN (wR S f a v) b = aN S b := rfl
theorem aI_wR (S : Sw) (f a : Nat) (v : Option Nat) (g b : Nat) : aI (wR S f a v) g b = aI S g b := rfl
theorem aR_wR (S : Sw) (f a : Nat) (v : Option Nat) (g b : Nat) : aR (wR S f a v) g b = if g = f ∧ b = a then v else aR S g b := rfl
theorem aD_wR (S : Sw) (f a : Nat) (v : Option Nat) (g b : Nat) : aD (wR S f a v) g b = aD S g b := rfl
theorem aJ_wR (S : Sw) (f a : Nat) (v : Option Nat) (g b : Nat) : aJ (wR S f a v) g b = aJ S g b := rfl
theorem sK_wD (S : Sw) (f a : Nat) (v : UInt64) (b : Nat) : sK (wD S f a v) b = sK S b := rfl
theorem fI_wD (S : Sw) (f a : Nat) (v : UInt64) (g b : Nat) : fI (wD S f a v) g b = fI S g b := rfl
theorem fJ_wD (S : Sw) (f a : Nat) (v : UInt64) (g b : Nat) : fJ (wD S f a v) g b = fJ S g b := rfl
theorem fR_wD (S : Sw) (f a : Nat) (v : UInt64) (g b : Nat) : fR (wD S f a v) g b = fR S g b := rfl
theorem aN_wD (S : Sw) (f a : Nat) (v : UInt64) (b : Nat) : aN (wD S f a v) b = aN S b := rfl
theorem aI_wD (S : Sw) (f a : Nat) (v : UInt64) (g b : Nat) : aI (wD S f a v) g b = aI S g b := rfl
theorem aR_wD (S : Sw) (f a : Nat) (v : UInt64) (g b : Nat) : aR (wD S f a v) g b = aR S g b := rfl
theorem aD_wD (S : Sw) (f a : Nat) (v : UInt64) (g b : Nat) : aD (wD S f a v) g b = if g = f ∧ b = a then v else aD S g b := rfl
theorem aJ_wD (S : Sw) (f a : Nat) (v : UInt64) (g b : Nat) : aJ (wD S f a v) g b = aJ S g b := rfl
theorem sK_wJ (S : Sw) (f a : Nat) (v : Int64) (b : Nat) : sK (wJ S f a v) b = sK S b := rfl
theorem fI_wJ (S : Sw) (f a : Nat) (v : Int64) (g b : Nat) : fI (wJ S f a v) g b = fI S g b := rfl
theorem fJ_wJ (S : Sw) (f a : Nat) (v : Int64) (g b : Nat) : fJ (wJ S f a v) g b = fJ S g b := rfl
theorem fR_wJ (S : Sw) (f a : Nat) (v : Int64) (g b : Nat) : fR (wJ S f a v) g b = fR S g b := rfl
theorem aN_wJ (S : Sw) (f a : Nat) (v : Int64) (b : Nat) : aN (wJ S f a v) b = aN S b := rfl
theorem aI_wJ (S : Sw) (f a : Nat) (v : Int64) (g b : Nat) : aI (wJ S f a v) g b = aI S g b := rfl
theorem aR_wJ (S : Sw) (f a : Nat) (v : Int64) (g b : Nat) : aR (wJ S f a v) g b = aR S g b := rfl
theorem aD_wJ (S : Sw) (f a : Nat) (v : Int64) (g b : Nat) : aD (wJ S f a v) g b = aD S g b := rfl
theorem aJ_wJ (S : Sw) (f a : Nat) (v : Int64) (g b : Nat) : aJ (wJ S f a v) g b = if g = f ∧ b = a then v else aJ S g b := rfl
theorem sK_wIs (S : Sw) (a : Nat) (r : Nat → Int32) (b : Nat) : sK (wIs S a r) b = sK S b := rfl
theorem sK_nO (S : Sw) (a k : Nat) (b : Nat) : sK (nO S a k) b = if b = a then k else sK S b := rfl
theorem sK_nA (S : Sw) (a k n : Nat) (b : Nat) : sK (nA S a k n) b = if b = a then k else sK S b := rfl
theorem fI_wIs (S : Sw) (a : Nat) (r : Nat → Int32) (g b : Nat) : fI (wIs S a r) g b = fI S g b := rfl
theorem fI_nO (S : Sw) (a k : Nat) (g b : Nat) : fI (nO S a k) g b = if b = a then 0 else fI S g b := rfl
theorem fI_nA (S : Sw) (a k n : Nat) (g b : Nat) : fI (nA S a k n) g b = fI S g b := rfl
theorem fJ_wIs (S : Sw) (a : Nat) (r : Nat → Int32) (g b : Nat) : fJ (wIs S a r) g b = fJ S g b := rfl
theorem fJ_nO (S : Sw) (a k : Nat) (g b : Nat) : fJ (nO S a k) g b = if b = a then 0 else fJ S g b := rfl
theorem fJ_nA (S : Sw) (a k n : Nat) (g b : Nat) : fJ (nA S a k n) g b = fJ S g b := rfl
theorem fR_wIs (S : Sw) (a : Nat) (r : Nat → Int32) (g b : Nat) : fR (wIs S a r) g b = fR S g b := rfl
theorem fR_nO (S : Sw) (a k : Nat) (g b : Nat) : fR (nO S a k) g b = if b = a then none else fR S g b := rfl
theorem fR_nA (S : Sw) (a k n : Nat) (g b : Nat) : fR (nA S a k n) g b = fR S g b := rfl
theorem aN_wIs (S : Sw) (a : Nat) (r : Nat → Int32) (b : Nat) : aN (wIs S a r) b = aN S b := rfl
theorem aN_nO (S : Sw) (a k : Nat) (b : Nat) : aN (nO S a k) b = aN S b := rfl
theorem aN_nA (S : Sw) (a k n : Nat) (b : Nat) : aN (nA S a k n) b = if b = a then n else aN S b := rfl
theorem aI_wIs (S : Sw) (a : Nat) (r : Nat → Int32) (g b : Nat) : aI (wIs S a r) g b = if g = a then r b else aI S g b := rfl
theorem aI_nO (S : Sw) (a k : Nat) (g b : Nat) : aI (nO S a k) g b = aI S g b := rfl
theorem aI_nA (S : Sw) (a k n : Nat) (g b : Nat) : aI (nA S a k n) g b = if g = a then 0 else aI S g b := rfl
theorem aR_wIs (S : Sw) (a : Nat) (r : Nat → Int32) (g b : Nat) : aR (wIs S a r) g b = aR S g b := rfl
theorem aR_nO (S : Sw) (a k : Nat) (g b : Nat) : aR (nO S a k) g b = aR S g b := rfl
theorem aR_nA (S : Sw) (a k n : Nat) (g b : Nat) : aR (nA S a k n) g b = if g = a then none else aR S g b := rfl
theorem aD_wIs (S : Sw) (a : Nat) (r : Nat → Int32) (g b : Nat) : aD (wIs S a r) g b = aD S g b := rfl
theorem aD_nO (S : Sw) (a k : Nat) (g b : Nat) : aD (nO S a k) g b = aD S g b := rfl
theorem aD_nA (S : Sw) (a k n : Nat) (g b : Nat) : aD (nA S a k n) g b = if g = a then FP.dconst0 else aD S g b := rfl
theorem aJ_wIs (S : Sw) (a : Nat) (r : Nat → Int32) (g b : Nat) : aJ (wIs S a r) g b = aJ S g b := rfl
theorem aJ_nO (S : Sw) (a k : Nat) (g b : Nat) : aJ (nO S a k) g b = aJ S g b := rfl
theorem aJ_nA (S : Sw) (a k n : Nat) (g b : Nat) : aJ (nA S a k n) g b = if g = a then 0 else aJ S g b := rfl
abbrev GG : Type := va_G × (Nat → ClassId)
/-- what lies at an address, by its kind -/
def ent (G : GG) (S : Sw) (a : Nat) : va_E := match sK S a with
  | 1 => .inr (0, [va_rf (fR S 100 a), .long (fJ S 101 a), .long (fJ S 102 a)])
  | 2 => .inr (1, [va_rf (fR S 200 a), va_rf (fR S 201 a), .long (fJ S 202 a)])
  | 3 => .inr (2, [.int (fI S 300 a), .int (fI S 301 a), .int (fI S 302 a), .long (fJ S 303 a)])
  | 4 => .inr (3, [.int (fI S 0 a), .int (fI S 1 a), .int (fI S 2 a), .int (fI S 3 a), .int (fI S 4 a), va_rf (fR S 405 a), va_rf (fR S 406 a), va_rf (fR S 407 a), .long (fJ S 408 a), .long (fJ S 409 a)])
  | 5 => .inr (4, [.int (fI S 0 a), .int (fI S 1 a), .int (fI S 2 a), .int (fI S 3 a), .int (fI S 4 a), va_rf (fR S 505 a), va_rf (fR S 506 a), va_rf (fR S 507 a), .int (fI S 508 a), .int (fI S 509 a), .int (fI S 510 a), .int (fI S 511 a), .long (fJ S 512 a), .long (fJ S 513 a), .long (fJ S 514 a)])
  | 6 => .inr (5, [va_rf (fR S 600 a)])
  | 7 => .inr (6, [va_rf (fR S 700 a), va_rf (fR S 701 a), va_rf (fR S 702 a), va_rf (fR S 703 a), .int (fI S 704 a), .int (fI S 705 a), va_rf (fR S 706 a), .int (fI S 707 a), va_rf (fR S 708 a), va_rf (fR S 709 a), va_rf (fR S 710 a)])
  | 8 => .inr (7, [.int (fI S 800 a), va_rf (fR S 801 a), va_rf (fR S 802 a), va_rf (fR S 803 a), va_rf (fR S 804 a), va_rf (fR S 805 a), va_rf (fR S 806 a), va_rf (fR S 807 a), va_rf (fR S 808 a), va_rf (fR S 809 a), va_rf (fR S 810 a), va_rf (fR S 811 a), va_rf (fR S 812 a), va_rf (fR S 813 a), va_rf (fR S 814 a), va_rf (fR S 815 a), va_rf (fR S 816 a), va_rf (fR S 817 a), va_rf (fR S 818 a), va_rf (fR S 819 a), va_rf (fR S 820 a), va_rf (fR S 821 a), va_rf (fR S 822 a), va_rf (fR S 823 a), .int (fI S 824 a), va_rf (fR S 825 a), va_rf (fR S 826 a), va_rf (fR S 827 a), va_rf (fR S 828 a), va_rf (fR S 829 a), va_rf (fR S 830 a), va_rf (fR S 831 a), .int (fI S 832 a), .int (fI S 833 a), .int (fI S 834 a), .int (fI S 835 a), va_rf (fR S 836 a), va_rf (fR S 837 a), va_rf (fR S 838 a), va_rf (fR S 839 a)])
  | 9 => .inl (G.2 0, aN S a, .inl (aI S a))
  | 10 => .inl (G.2 1, aN S a, .inl (aI S a))
  | 11 => .inl (G.2 2, aN S a, .inr (.inl (aJ S a)))
  | 12 => .inl (G.2 3, aN S a, .inr (.inr (.inr (.inl (aD S a)))))
  | 13 => .inl (G.2 4, aN S a, .inr (.inr (.inr (.inr (aR S a)))))
  | 14 => .inl (G.2 5, aN S a, .inr (.inr (.inr (.inr (aR S a)))))
  | _ => .inr (0, [])
theorem ent_1 {G : GG} {S : Sw} {a : Nat} (h : sK S a = 1) : ent G S a = .inr (0, [va_rf (fR S 100 a), .long (fJ S 101 a), .long (fJ S 102 a)]) := by unfold ent; rw [h]; rfl
theorem ent_2 {G : GG} {S : Sw} {a : Nat} (h : sK S a = 2) : ent G S a = .inr (1, [va_rf (fR S 200 a), va_rf (fR S 201 a), .long (fJ S 202 a)]) := by unfold ent; rw [h]; rfl
theorem ent_3 {G : GG} {S : Sw} {a : Nat} (h : sK S a = 3) : ent G S a = .inr (2, [.int (fI S 300 a), .int (fI S 301 a), .int (fI S 302 a), .long (fJ S 303 a)]) := by unfold ent; rw [h]; rfl
theorem ent_4 {G : GG} {S : Sw} {a : Nat} (h : sK S a = 4) : ent G S a = .inr (3, [.int (fI S 0 a), .int (fI S 1 a), .int (fI S 2 a), .int (fI S 3 a), .int (fI S 4 a), va_rf (fR S 405 a), va_rf (fR S 406 a), va_rf (fR S 407 a), .long (fJ S 408 a), .long (fJ S 409 a)]) := by unfold ent; rw [h]; rfl
theorem ent_5 {G : GG} {S : Sw} {a : Nat} (h : sK S a = 5) : ent G S a = .inr (4, [.int (fI S 0 a), .int (fI S 1 a), .int (fI S 2 a), .int (fI S 3 a), .int (fI S 4 a), va_rf (fR S 505 a), va_rf (fR S 506 a), va_rf (fR S 507 a), .int (fI S 508 a), .int (fI S 509 a), .int (fI S 510 a), .int (fI S 511 a), .long (fJ S 512 a), .long (fJ S 513 a), .long (fJ S 514 a)]) := by unfold ent; rw [h]; rfl
theorem ent_6 {G : GG} {S : Sw} {a : Nat} (h : sK S a = 6) : ent G S a = .inr (5, [va_rf (fR S 600 a)]) := by unfold ent; rw [h]; rfl
theorem ent_7 {G : GG} {S : Sw} {a : Nat} (h : sK S a = 7) : ent G S a = .inr (6, [va_rf (fR S 700 a), va_rf (fR S 701 a), va_rf (fR S 702 a), va_rf (fR S 703 a), .int (fI S 704 a), .int (fI S 705 a), va_rf (fR S 706 a), .int (fI S 707 a), va_rf (fR S 708 a), va_rf (fR S 709 a), va_rf (fR S 710 a)]) := by unfold ent; rw [h]; rfl
theorem ent_8 {G : GG} {S : Sw} {a : Nat} (h : sK S a = 8) : ent G S a = .inr (7, [.int (fI S 800 a), va_rf (fR S 801 a), va_rf (fR S 802 a), va_rf (fR S 803 a), va_rf (fR S 804 a), va_rf (fR S 805 a), va_rf (fR S 806 a), va_rf (fR S 807 a), va_rf (fR S 808 a), va_rf (fR S 809 a), va_rf (fR S 810 a), va_rf (fR S 811 a), va_rf (fR S 812 a), va_rf (fR S 813 a), va_rf (fR S 814 a), va_rf (fR S 815 a), va_rf (fR S 816 a), va_rf (fR S 817 a), va_rf (fR S 818 a), va_rf (fR S 819 a), va_rf (fR S 820 a), va_rf (fR S 821 a), va_rf (fR S 822 a), va_rf (fR S 823 a), .int (fI S 824 a), va_rf (fR S 825 a), va_rf (fR S 826 a), va_rf (fR S 827 a), va_rf (fR S 828 a), va_rf (fR S 829 a), va_rf (fR S 830 a), va_rf (fR S 831 a), .int (fI S 832 a), .int (fI S 833 a), .int (fI S 834 a), .int (fI S 835 a), va_rf (fR S 836 a), va_rf (fR S 837 a), va_rf (fR S 838 a), va_rf (fR S 839 a)]) := by unfold ent; rw [h]; rfl
theorem ent_9 {G : GG} {S : Sw} {a : Nat} (h : sK S a = 9) : ent G S a = .inl (G.2 0, aN S a, .inl (aI S a)) := by unfold ent; rw [h]; rfl
theorem ent_10 {G : GG} {S : Sw} {a : Nat} (h : sK S a = 10) : ent G S a = .inl (G.2 1, aN S a, .inl (aI S a)) := by unfold ent; rw [h]; rfl
theorem ent_11 {G : GG} {S : Sw} {a : Nat} (h : sK S a = 11) : ent G S a = .inl (G.2 2, aN S a, .inr (.inl (aJ S a))) := by unfold ent; rw [h]; rfl
theorem ent_12 {G : GG} {S : Sw} {a : Nat} (h : sK S a = 12) : ent G S a = .inl (G.2 3, aN S a, .inr (.inr (.inr (.inl (aD S a))))) := by unfold ent; rw [h]; rfl
theorem ent_13 {G : GG} {S : Sw} {a : Nat} (h : sK S a = 13) : ent G S a = .inl (G.2 4, aN S a, .inr (.inr (.inr (.inr (aR S a))))) := by unfold ent; rw [h]; rfl
theorem ent_14 {G : GG} {S : Sw} {a : Nat} (h : sK S a = 14) : ent G S a = .inl (G.2 5, aN S a, .inr (.inr (.inr (.inr (aR S a))))) := by unfold ent; rw [h]; rfl
/-! ===== words: one list for all methods ===== -/
def TB : List Cond := lw_tbl.filter goodWord
theorem mem_tbl {w : Cond} (i : Nat) (h : tables_1[i]? = some w) : w ∈ lw_tbl := List.mem_append_right _ (List.mem_of_getElem? h)
theorem mem_tb {w : Cond} (h : w ∈ lw_tbl) (hg : goodWord w = true) : w ∈ TB := List.mem_filter.mpr ⟨h, hg⟩
theorem tb_good {w : Cond} (h : w ∈ TB) : goodWord w = true := (List.mem_filter.mp h).2
theorem tb_in {big : List Cond} {z : Cond} (hb : big = z :: TB) {ws : List Cond} (h : ∀ w ∈ ws, w ∈ TB) : GoodIn big ws := fun w hw => ⟨by rw [hb]; exact List.mem_cons_of_mem _ (h w hw), good_of_word (tb_good (h w hw))⟩
theorem tb_inT {ws : List Cond} (h : ∀ w ∈ ws, w ∈ TB) : GoodIn TB ws := fun w hw => ⟨h w hw, good_of_word (tb_good (h w hw))⟩
theorem all_c {w : Cond} {B : List Cond} (h : w ∈ TB) (t : ∀ w ∈ B, w ∈ TB) : ∀ w' ∈ w :: B, w' ∈ TB := fun w' h' => (List.mem_cons.mp h').elim (fun e => by rw [e]; exact h) (t w')
theorem all_n : ∀ w' ∈ ([] : List Cond), w' ∈ TB := fun _ h => nomatch h
theorem all_tb : ∀ w' ∈ TB, w' ∈ TB := fun _ h => h
/-! ===== the heap holds the pool ===== -/
abbrev Ab (b : Nat) : Nat → Prop := fun q => b ≤ q
def tyl (G : GG) : List (ClassId × FieldType) := [(G.2 0, .int), (G.2 1, .boolean), (G.2 2, .long), (G.2 3, .double), (G.2 4, .object "SoundKernel$Client"), (G.2 5, .array .int)]
def Hd (G : GG) (b : Nat) (S : Sw) (H : Heap) : Prop := ∃ L : List Nat, va_P G.1 vwCl (va_pl L (ent G S)) H ∧ va_D (Ab b) (va_pl L (ent G S)) ∧ ∀ a, sK S a ≠ 0 → a ∈ L
theorem Hd.at {G : GG} {b : Nat} {S : Sw} {H : Heap} {a : Nat} (h : Hd G b S H) (ha : sK S a ≠ 0) : ∃ (ws : va_W) (k : Nat), va_P G.1 vwCl ws H ∧ va_D (Ab b) ws ∧ ws[k]? = some (a, ent G S a) ∧
    (∀ (S' : Sw) (H1 : Heap) (e : va_E), va_P G.1 vwCl (ws.set k (a, e)) H1 → va_D (Ab b) (ws.set k (a, e)) → ent G S' a = e → (∀ x, x ≠ a → ent G S' x = ent G S x) → (∀ x, sK S' x ≠ 0 → sK S x ≠ 0) → Hd G b S' H1) ∧
    (∀ (S' : Sw) (H1 : Heap) (x : Nat) (e : va_E), va_P G.1 vwCl (ws ++ [(x, e)]) H1 → va_D (Ab b) (ws ++ [(x, e)]) → ent G S' x = e → (∀ z, z ≠ x → ent G S' z = ent G S z) → (∀ z, sK S' z ≠ 0 → z = x ∨ sK S z ≠ 0) → Hd G b S' H1) := by
  obtain ⟨L, hP, hD, hL⟩ := h
  obtain ⟨k, hk⟩ := va_pl_get (X := []) (f := ent G S) (hL a ha)
  refine ⟨va_pl L (ent G S), k, hP, hD, hk, ?_, ?_⟩
  · intro S' H1 e hP1 hD1 he hx hK
    have hs : (va_pl L (ent G S)).set k (a, e) = va_pl L (ent G S') := by
      rw [show (va_pl L (ent G S)).set k (a, e) = va_pl L (va_up (ent G S) a e) from va_pl_set (X := []) hD (hL a ha) hk]
      refine va_pl_congr (fun z => ?_)
      by_cases hz : z = a
      · subst hz; rw [va_up_self]; exact he.symm
      · rw [va_up_ne _ _ hz]; exact (hx z hz).symm
    rw [hs] at hP1 hD1
    exact ⟨L, hP1, hD1, fun z hz => hL z (hK z hz)⟩
  · intro S' H1 x e hP1 hD1 he hx hK
    have hn : x ∉ L := by
      intro hin
      obtain ⟨i, hi⟩ := va_pl_get (X := []) (f := ent G S) hin
      have hi' : (va_pl L (ent G S))[i]? = some (x, ent G S x) := hi
      have hl := (List.getElem?_eq_some_iff.mp hi').1
      have h1 : (va_pl L (ent G S) ++ [(x, e)])[i]? = some (x, ent G S x) := by rw [List.getElem?_append_left hl]; exact hi'
      have h2 : (va_pl L (ent G S) ++ [(x, e)])[(va_pl L (ent G S)).length]? = some (x, e) := by rw [List.getElem?_append_right (Nat.le_refl _), Nat.sub_self]; rfl
      have := hD1.1 _ _ _ _ h1 h2 rfl
      omega
    have hs : va_pl L (ent G S) ++ [(x, e)] = va_pl (L ++ [x]) (ent G S') := by
      rw [va_pl_push hn]
      refine va_pl_congr (fun z => ?_)
      by_cases hz : z = x
      · subst hz; rw [va_up_self]; exact he.symm
      · rw [va_up_ne _ _ hz]; exact (hx z hz).symm
    rw [hs] at hP1 hD1
    exact ⟨L ++ [x], hP1, hD1, fun z hz => (hK z hz).elim (fun e => by rw [e]; simp) (fun e => List.mem_append_left _ (hL z e))⟩
theorem Hd.new {G : GG} {b : Nat} {S : Sw} {H : Heap} (h : Hd G b S H) : ∃ ws : va_W, va_P G.1 vwCl ws H ∧ va_D (Ab b) ws ∧ (∀ z : Nat, sK S z ≠ 0 → ∃ k : Nat, ws[k]? = some (z, ent G S z)) ∧
    (∀ (S' : Sw) (H1 : Heap) (x : Nat) (e : va_E), va_P G.1 vwCl (ws ++ [(x, e)]) H1 → va_D (Ab b) (ws ++ [(x, e)]) → ent G S' x = e → (∀ z, z ≠ x → ent G S' z = ent G S z) → (∀ z, sK S' z ≠ 0 → z = x ∨ sK S z ≠ 0) → Hd G b S' H1) := by
  obtain ⟨L, hP, hD, hL⟩ := h
  refine ⟨va_pl L (ent G S), hP, hD, fun z hz => va_pl_get (X := []) (f := ent G S) (hL z hz), ?_⟩
  intro S' H1 x e hP1 hD1 he hx hK
  have hn : x ∉ L := by
    intro hin
    obtain ⟨i, hi⟩ := va_pl_get (X := []) (f := ent G S) hin
    have hi' : (va_pl L (ent G S))[i]? = some (x, ent G S x) := hi
    have hl := (List.getElem?_eq_some_iff.mp hi').1
    have h1 : (va_pl L (ent G S) ++ [(x, e)])[i]? = some (x, ent G S x) := by rw [List.getElem?_append_left hl]; exact hi'
    have h2 : (va_pl L (ent G S) ++ [(x, e)])[(va_pl L (ent G S)).length]? = some (x, e) := by rw [List.getElem?_append_right (Nat.le_refl _), Nat.sub_self]; rfl
    have := hD1.1 _ _ _ _ h1 h2 rfl
    omega
  have hs : va_pl L (ent G S) ++ [(x, e)] = va_pl (L ++ [x]) (ent G S') := by
    rw [va_pl_push hn]
    refine va_pl_congr (fun z => ?_)
    by_cases hz : z = x
    · subst hz; rw [va_up_self]; exact he.symm
    · rw [va_up_ne _ _ hz]; exact (hx z hz).symm
  rw [hs] at hP1 hD1
  exact ⟨L ++ [x], hP1, hD1, fun z hz => (hK z hz).elim (fun e => by rw [e]; simp) (fun e => List.mem_append_left _ (hL z e))⟩
/-! ===== what holds all along: the tables, the constants ===== -/
def isB : Cond → Bool
  | .castable .. => true
  | .declares .. => true
  | .fieldLinkNest .. => true
  | .methodLinkNest .. => true
  | _ => false
def BW : List Cond := lw_tbl.filter isB
theorem mem_bw {w : Cond} (h : w ∈ lw_tbl) (hg : isB w = true) : w ∈ BW := List.mem_filter.mpr ⟨h, hg⟩
theorem bw_warm {w : Cond} (h : w ∈ BW) {s U : State} (hW : s.WarmedH U.vm) (hw : va_Nw w s) : va_Nw w U := by
  have hb := (List.mem_filter.mp h).2
  cases w <;> first | exact va_Nw.warmC hW hw | exact va_Nw.warmD hW hw | exact va_Nw.warmF hW hw | exact va_Nw.warmM hW hw | exact absurd hb (by simp [isB])
theorem bw_on {w : Cond} (h : w ∈ BW) : w.onTables = true := by
  have hb := (List.mem_filter.mp h).2
  cases w <;> first | rfl | exact absurd hb (by simp [isB])
def STR : List (Nat × String) := [(63, "no such rate, channels or bits"), (74, "there are six clients"), (93, "a gain is 0 to 1"), (103, "neither opened nor paused"), (117, "no number of its bits"), (123, "draining or stopped"), (135, "none is ready"), (176, "no such frame or sample"), (182, "no such period or frame"), (206, "no such tap"), (212, "no such client"), (214, "the client listens"), (216, "the client plays"), (218, "not running")]
def NCL : List (String × String) := [("SoundKernel$Player", "SoundKernel$Listener"), ("SoundKernel$Listener", "SoundKernel$Player"), ("java/lang/IllegalStateException", "java/lang/IllegalArgumentException")]
def rts : Nat → Value := fun j => match j with
  | 0 => .int 8000
  | 1 => .int 11025
  | 2 => .int 16000
  | 3 => .int 22050
  | 4 => .int 32000
  | 5 => .int 44100
  | _ => .int 48000
def Fx (G : GG) (b : Nat) (U : State) : Prop :=
  va_K G.1 vwCl (tyl G) U ∧ (∀ w ∈ BW, va_Nw w U) ∧ (∀ q ∈ STR, ∃ a, vk_R "SoundKernel" q.1 q.2 a U) ∧ (∀ q ∈ NCL, va_Nc q.1 q.2 U) ∧ vx_Zq Bundle.tN "UNASSIGNED_STACK" Bundle.steD (Ab b) U U.heap ∧ vx_Zq Bundle.tN "SUPPRESSED_SENTINEL" Bundle.listD (Ab b) U U.heap ∧
  (∃ t, va_Z "SoundKernel" "RATES" "[I" (.ref t) (Ab b) U U.heap ∧ va_T .int t 7 rts (Ab b) U U.heap) ∧ va_AO "SoundKernel$Client" U ∧ b ≤ U.heap.size
theorem Fx.move {G : GG} {b : Nat} {s U : State} (hW : s.WarmedH U.vm) (hz : s.heap.size ≤ U.heap.size) (hk : ∀ q : Nat, q < s.heap.size → ¬ Ab b q → U.heap[q]? = s.heap[q]?) (h : Fx G b s) : Fx G b U := by
  obtain ⟨h1, h2, h3, h4, h5, h6, ⟨t, h7, h8⟩, h9, h10⟩ := h
  have hv := hW.alike
  exact ⟨va_K.moved hv h1, fun w hw => bw_warm hw hW (h2 w hw), fun q hq => (h3 q hq).elim (fun a ha => ⟨a, vk_R.warm hW ha⟩), fun q hq => va_Nc.moved hv (h4 q hq), vx_Zq.moved hv (vx_Zq.kept h5 hk), vx_Zq.moved hv (vx_Zq.kept h6 hk),
    ⟨t, va_Z.moved hv (va_Z.kept h7 hk), va_T.moved hv (va_T.kept h8 hk)⟩, va_AO.moved hv h9, Nat.le_trans h10 hz⟩
def HU (G : GG) (b : Nat) (S : Sw) (U : State) : Prop := Fx G b U ∧ Hd G b S U.heap
theorem HU.blind {G : GG} {b : Nat} {S : Sw} {av : List Value} : FrameBlind (va_Pc av (HU G b S)) := by
  intro a U g mk h
  obtain ⟨h0, hF, hH⟩ := h
  refine ⟨h0, ?_, hH⟩
  obtain ⟨h1, h2, h3, h4, h5, h6, ⟨t, h7, h8⟩, h9, h10⟩ := hF
  have hv : U.vm.Alike (U.calling g mk a).vm := Vm.Alike.refl U.vm
  have hs : (U.calling g mk a).vm = U.vm := rfl
  exact ⟨va_K.moved hv h1, fun w hw => va_Nw.same (bw_on hw) hs.symm (h2 w hw), fun q hq => (h3 q hq).elim (fun a ha => ⟨a, vk_R.same hs ha⟩), fun q hq => va_Nc.moved hv (h4 q hq), vx_Zq.moved hv h5, vx_Zq.moved hv h6, ⟨t, va_Z.moved hv h7, va_T.moved hv h8⟩, va_AO.moved hv h9, h10⟩
/-! ===== a method's body: what stands fast, and the goal at a place of it ===== -/
def Cx (p : Program) (l : Launch) (s : State) (m : MethodId) (args : Array Value) (meth : Method) (c : Code) (cc : ByteArray) (nL : Nat) (own : String) (ret : Option FieldType) (G : GG) (b : Nat) : Prop :=
  p.tables.exec = Jvm.exec ∧ c.code = cc ∧ c.maxLocals = nL ∧ s.vm.findClass own = some m.cls ∧ (∀ w ∈ TB, w.before args s = true) ∧ Fx G b s ∧ meth.locks = false ∧ meth.sig.returnType = ret ∧ l.stackTraces = false
section JJ
variable {p : Program} {l : Launch} {e : Env} {R : Room} {s : State} {m : MethodId} {args : Array Value} {below : List Frame} {meth : Method} {c : Code} {Q : State → Prop} {cc : ByteArray} {nL : Nat} {own : String} {ret : Option FieldType} {G : GG} {b : Nat} {pc : Nat} {lv : List (Nat × Value)} {st : List Value} {S : Sw} {cells slots : Nat}
def J (p : Program) (l : Launch) (e : Env) (R : Room) (s : State) (m : MethodId) (args : Array Value) (below : List Frame) (meth : Method) (c : Code) (nL : Nat) (G : GG) (b : Nat) (Q : State → Prop) (pc : Nat) (lv : List (Nat × Value)) (st : List Value) (S : Sw) (cells slots : Nat) : Prop :=
  ∀ (ls : Array Slot) (H : Heap) (locs : List Loc), lv_has ls nL lv → Hd G b S H → va_S (Ab b) s.heap H locs → W p l e R s m args below meth c H locs cells slots Q (F0 m pc ls st)
theorem Cx.w (C : Cx p l s m args meth c cc nL own ret G b) {w : Cond} (h : w ∈ TB) : w.before args s = true := C.2.2.2.2.1 w h
theorem Cx.fx (C : Cx p l s m args meth c cc nL own ret G b) : Fx G b s := C.2.2.2.2.2.1
theorem Cx.K (C : Cx p l s m args meth c cc nL own ret G b) : va_K G.1 vwCl (tyl G) s := C.fx.1
theorem Cx.bw (C : Cx p l s m args meth c cc nL own ret G b) {w : Cond} (h : w ∈ BW) : w.before args s = true := va_Nw.use (bw_on h) (C.fx.2.1 w h)
theorem lk_at : ∀ {lv : List (Nat × Value)} {i : Nat} {v : Value} {ls : Array Slot} {n : Nat}, lv_has ls n lv → lv.lookup i = some v → ls[i]? = some (.val v)
  | [], _, _, _, _, _, h => by simp at h
  | (j, w) :: lv, i, v, ls, n, hl, h => by
    by_cases hij : i = j
    · subst hij
      simp [List.lookup] at h
      subst h
      exact hl.2.2 (i, w) List.mem_cons_self
    · have h2 : lv.lookup i = some v := by
        have hb : (i == j) = false := by simpa using hij
        simpa [List.lookup, hb] using h
      exact lk_at ⟨hl.1, hl.2.1, fun q hq => hl.2.2 q (List.mem_cons_of_mem _ hq)⟩ h2
def st1 (lv : List (Nat × Value)) (i : Nat) (v : Value) : List (Nat × Value) := (i, v) :: lv.filter (fun q => !(q.1 == i) && !(q.1 + 1 == i && q.2.category == 2))
def st2 (lv : List (Nat × Value)) (i : Nat) (v : Value) : List (Nat × Value) := (i, v) :: lv.filter (fun q => !(q.1 == i) && (!(q.1 == i + 1) && !(q.1 + 1 == i && q.2.category == 2)))
/-- fewer locals, in another order -/
theorem J.sub {lv' : List (Nat × Value)} (h : ∀ q ∈ lv', lv.lookup q.1 = some q.2) (k : J p l e R s m args below meth c nL G b Q pc lv' st S cells slots) : J p l e R s m args below meth c nL G b Q pc lv st S cells slots :=
  fun ls H locs h1 h2 h3 => k ls H locs ⟨h1.1, h1.2.1, fun q hq => lk_at h1 (h q hq)⟩ h2 h3
theorem J.wide {k n : Nat} (h1 : cells ≤ k) (h2 : slots ≤ n) (kk : J p l e R s m args below meth c nL G b Q pc lv st S k n) : J p l e R s m args below meth c nL G b Q pc lv st S cells slots :=
  fun ls H locs a1 a2 a3 => W.widen h1 h2 (kk ls H locs a1 a2 a3)
theorem r_iconst (C : Cx p l s m args meth c cc nL own ret G b) {n : Nat} {z : Int} {v : Int32} (d : decode cc pc = .ok (.iconst z, 1)) (hv : Int32.ofInt z = v) (hn : pc + 1 = n) (k : J p l e R s m args below meth c nL G b Q n lv (.int v :: st) S cells slots) : J p l e R s m args below meth c nL G b Q pc lv (st) S cells slots := fun ls H locs h1 h2 h3 => by subst hn; exact lv_iconst C.1 C.2.1 d hv (k ls H locs h1 h2 h3)
theorem r_bipush (C : Cx p l s m args meth c cc nL own ret G b) {n : Nat} {z : Int} {v : Int32} (d : decode cc pc = .ok (.bipush z, 2)) (hv : (Int8.ofInt z).toInt32 = v) (hn : pc + 2 = n) (k : J p l e R s m args below meth c nL G b Q n lv (.int v :: st) S cells slots) : J p l e R s m args below meth c nL G b Q pc lv (st) S cells slots := fun ls H locs h1 h2 h3 => by subst hn; exact lv_bipush C.1 C.2.1 d hv (k ls H locs h1 h2 h3)
theorem r_sipush (C : Cx p l s m args meth c cc nL own ret G b) {n : Nat} {z : Int} {v : Int32} (d : decode cc pc = .ok (.sipush z, 3)) (hv : (Int16.ofInt z).toInt32 = v) (hn : pc + 3 = n) (k : J p l e R s m args below meth c nL G b Q n lv (.int v :: st) S cells slots) : J p l e R s m args below meth c nL G b Q pc lv (st) S cells slots := fun ls H locs h1 h2 h3 => by subst hn; exact lv_sipush C.1 C.2.1 d hv (k ls H locs h1 h2 h3)
theorem r_lconst (C : Cx p l s m args meth c cc nL own ret G b) {n : Nat} {z : Fin 2} {v : Int64} (d : decode cc pc = .ok (.lconst z, 1)) (hv : Int64.ofNat (z : Nat) = v) (hn : pc + 1 = n) (k : J p l e R s m args below meth c nL G b Q n lv (.long v :: st) S cells slots) : J p l e R s m args below meth c nL G b Q pc lv (st) S cells slots := fun ls H locs h1 h2 h3 => by subst hn; exact lv_lconst C.1 C.2.1 d hv (k ls H locs h1 h2 h3)
theorem r_dconst0 (C : Cx p l s m args meth c cc nL own ret G b) {n : Nat}  (d : decode cc pc = .ok (.dconst 0, 1))  (hn : pc + 1 = n) (k : J p l e R s m args below meth c nL G b Q n lv (.double FP.dconst0 :: st) S cells slots) : J p l e R s m args below meth c nL G b Q pc lv (st) S cells slots := fun ls H locs h1 h2 h3 => by subst hn; exact lv_dconst0 C.1 C.2.1 d  (k ls H locs h1 h2 h3)
theorem r_dconst1 (C : Cx p l s m args meth c cc nL own ret G b) {n : Nat}  (d : decode cc pc = .ok (.dconst 1, 1))  (hn : pc + 1 = n) (k : J p l e R s m args below meth c nL G b Q n lv (.double FP.dconst1 :: st) S cells slots) : J p l e R s m args below meth c nL G b Q pc lv (st) S cells slots := fun ls H locs h1 h2 h3 => by subst hn; exact lv_dconst1 C.1 C.2.1 d  (k ls H locs h1 h2 h3)
theorem r_null (C : Cx p l s m args meth c cc nL own ret G b) {n : Nat}  (d : decode cc pc = .ok (.aconst_null, 1))  (hn : pc + 1 = n) (k : J p l e R s m args below meth c nL G b Q n lv (.null :: st) S cells slots) : J p l e R s m args below meth c nL G b Q pc lv (st) S cells slots := fun ls H locs h1 h2 h3 => by subst hn; exact lv_null C.1 C.2.1 d  (k ls H locs h1 h2 h3)
theorem r_iload_n (C : Cx p l s m args meth c cc nL own ret G b) {n : Nat} {z : Fin 4} {i : Nat} {x : Int32} (d : decode cc pc = .ok (.iload_n z, 1)) (hi : (z : Nat) = i) (hl : lv.lookup i = some (.int x)) (hn : pc + 1 = n) (k : J p l e R s m args below meth c nL G b Q n lv (.int x :: st) S cells slots) : J p l e R s m args below meth c nL G b Q pc lv (st) S cells slots := fun ls H locs h1 h2 h3 => by subst hn; exact lv_iload_n C.1 C.2.1 d hi (lk_at h1 hl) (k ls H locs h1 h2 h3)
theorem r_iload (C : Cx p l s m args meth c cc nL own ret G b) {n : Nat} {i : Nat} {x : Int32} (d : decode cc pc = .ok (.iload i, 2)) (hl : lv.lookup i = some (.int x)) (hn : pc + 2 = n) (k : J p l e R s m args below meth c nL G b Q n lv (.int x :: st) S cells slots) : J p l e R s m args below meth c nL G b Q pc lv (st) S cells slots := fun ls H locs h1 h2 h3 => by subst hn; exact lv_iload C.1 C.2.1 d (lk_at h1 hl) (k ls H locs h1 h2 h3)
theorem r_lload_n (C : Cx p l s m args meth c cc nL own ret G b) {n : Nat} {z : Fin 4} {i : Nat} {x : Int64} (d : decode cc pc = .ok (.lload_n z, 1)) (hi : (z : Nat) = i) (hl : lv.lookup i = some (.long x)) (hn : pc + 1 = n) (k : J p l e R s m args below meth c nL G b Q n lv (.long x :: st) S cells slots) : J p l e R s m args below meth c nL G b Q pc lv (st) S cells slots := fun ls H locs h1 h2 h3 => by subst hn; exact lv_lload_n C.1 C.2.1 d hi (lk_at h1 hl) (k ls H locs h1 h2 h3)
theorem r_lload (C : Cx p l s m args meth c cc nL own ret G b) {n : Nat} {i : Nat} {x : Int64} (d : decode cc pc = .ok (.lload i, 2)) (hl : lv.lookup i = some (.long x)) (hn : pc + 2 = n) (k : J p l e R s m args below meth c nL G b Q n lv (.long x :: st) S cells slots) : J p l e R s m args below meth c nL G b Q pc lv (st) S cells slots := fun ls H locs h1 h2 h3 => by subst hn; exact lv_lload C.1 C.2.1 d (lk_at h1 hl) (k ls H locs h1 h2 h3)
theorem r_aload_n (C : Cx p l s m args meth c cc nL own ret G b) {n : Nat} {z : Fin 4} {i : Nat} {x : Nat} (d : decode cc pc = .ok (.aload_n z, 1)) (hi : (z : Nat) = i) (hl : lv.lookup i = some (.ref x)) (hn : pc + 1 = n) (k : J p l e R s m args below meth c nL G b Q n lv (.ref x :: st) S cells slots) : J p l e R s m args below meth c nL G b Q pc lv (st) S cells slots := fun ls H locs h1 h2 h3 => by subst hn; exact lv_aload_n C.1 C.2.1 d hi (lk_at h1 hl) (k ls H locs h1 h2 h3)
theorem r_aload (C : Cx p l s m args meth c cc nL own ret G b) {n : Nat} {i : Nat} {x : Nat} (d : decode cc pc = .ok (.aload i, 2)) (hl : lv.lookup i = some (.ref x)) (hn : pc + 2 = n) (k : J p l e R s m args below meth c nL G b Q n lv (.ref x :: st) S cells slots) : J p l e R s m args below meth c nL G b Q pc lv (st) S cells slots := fun ls H locs h1 h2 h3 => by subst hn; exact lv_aload C.1 C.2.1 d (lk_at h1 hl) (k ls H locs h1 h2 h3)
theorem r_dload_n (C : Cx p l s m args meth c cc nL own ret G b) {n : Nat} {z : Fin 4} {i : Nat} {x : UInt64} (d : decode cc pc = .ok (.dload_n z, 1)) (hi : (z : Nat) = i) (hl : lv.lookup i = some (.double x)) (hn : pc + 1 = n) (k : J p l e R s m args below meth c nL G b Q n lv (.double x :: st) S cells slots) : J p l e R s m args below meth c nL G b Q pc lv (st) S cells slots := fun ls H locs h1 h2 h3 => by subst hn; exact lv_dload_n C.1 C.2.1 d hi (lk_at h1 hl) (k ls H locs h1 h2 h3)
theorem r_dload (C : Cx p l s m args meth c cc nL own ret G b) {n : Nat} {i : Nat} {x : UInt64} (d : decode cc pc = .ok (.dload i, 2)) (hl : lv.lookup i = some (.double x)) (hn : pc + 2 = n) (k : J p l e R s m args below meth c nL G b Q n lv (.double x :: st) S cells slots) : J p l e R s m args below meth c nL G b Q pc lv (st) S cells slots := fun ls H locs h1 h2 h3 => by subst hn; exact lv_dload C.1 C.2.1 d (lk_at h1 hl) (k ls H locs h1 h2 h3)
theorem r_istore_n (C : Cx p l s m args meth c cc nL own ret G b) {n : Nat} {z : Fin 4} {i : Nat} {x : Int32} {lv' : List (Nat × Value)} (d : decode cc pc = .ok (.istore_n z, 1)) (hi : (z : Nat) = i) (hb : i < nL) (hl : st1 lv i (.int x) = lv') (hn : pc + 1 = n) (k : J p l e R s m args below meth c nL G b Q n lv' st S cells slots) : J p l e R s m args below meth c nL G b Q pc lv (.int x :: st) S cells slots := fun ls H locs h1 h2 h3 => by subst hn; exact lv_istore_n C.1 C.2.1 d hi h1 hb hl (fun ls' h1 => k ls' H locs h1 h2 h3)
theorem r_istore (C : Cx p l s m args meth c cc nL own ret G b) {n : Nat} {i : Nat} {x : Int32} {lv' : List (Nat × Value)} (d : decode cc pc = .ok (.istore i, 2)) (hb : i < nL) (hl : st1 lv i (.int x) = lv') (hn : pc + 2 = n) (k : J p l e R s m args below meth c nL G b Q n lv' st S cells slots) : J p l e R s m args below meth c nL G b Q pc lv (.int x :: st) S cells slots := fun ls H locs h1 h2 h3 => by subst hn; exact lv_istore C.1 C.2.1 d h1 hb hl (fun ls' h1 => k ls' H locs h1 h2 h3)
theorem r_lstore_n (C : Cx p l s m args meth c cc nL own ret G b) {n : Nat} {z : Fin 4} {i : Nat} {x : Int64} {lv' : List (Nat × Value)} (d : decode cc pc = .ok (.lstore_n z, 1)) (hi : (z : Nat) = i) (hb : i + 1 < nL) (hl : st2 lv i (.long x) = lv') (hn : pc + 1 = n) (k : J p l e R s m args below meth c nL G b Q n lv' st S cells slots) : J p l e R s m args below meth c nL G b Q pc lv (.long x :: st) S cells slots := fun ls H locs h1 h2 h3 => by subst hn; exact lv_lstore_n C.1 C.2.1 d hi h1 hb hl (fun ls' h1 => k ls' H locs h1 h2 h3)
theorem r_lstore (C : Cx p l s m args meth c cc nL own ret G b) {n : Nat} {i : Nat} {x : Int64} {lv' : List (Nat × Value)} (d : decode cc pc = .ok (.lstore i, 2)) (hb : i + 1 < nL) (hl : st2 lv i (.long x) = lv') (hn : pc + 2 = n) (k : J p l e R s m args below meth c nL G b Q n lv' st S cells slots) : J p l e R s m args below meth c nL G b Q pc lv (.long x :: st) S cells slots := fun ls H locs h1 h2 h3 => by subst hn; exact lv_lstore C.1 C.2.1 d h1 hb hl (fun ls' h1 => k ls' H locs h1 h2 h3)
theorem r_astore_n (C : Cx p l s m args meth c cc nL own ret G b) {n : Nat} {z : Fin 4} {i : Nat} {x : Nat} {lv' : List (Nat × Value)} (d : decode cc pc = .ok (.astore_n z, 1)) (hi : (z : Nat) = i) (hb : i < nL) (hl : st1 lv i (.ref x) = lv') (hn : pc + 1 = n) (k : J p l e R s m args below meth c nL G b Q n lv' st S cells slots) : J p l e R s m args below meth c nL G b Q pc lv (.ref x :: st) S cells slots := fun ls H locs h1 h2 h3 => by subst hn; exact lv_astore_n C.1 C.2.1 d hi h1 hb hl (fun ls' h1 => k ls' H locs h1 h2 h3)
theorem r_astore (C : Cx p l s m args meth c cc nL own ret G b) {n : Nat} {i : Nat} {x : Nat} {lv' : List (Nat × Value)} (d : decode cc pc = .ok (.astore i, 2)) (hb : i < nL) (hl : st1 lv i (.ref x) = lv') (hn : pc + 2 = n) (k : J p l e R s m args below meth c nL G b Q n lv' st S cells slots) : J p l e R s m args below meth c nL G b Q pc lv (.ref x :: st) S cells slots := fun ls H locs h1 h2 h3 => by subst hn; exact lv_astore C.1 C.2.1 d h1 hb hl (fun ls' h1 => k ls' H locs h1 h2 h3)
theorem r_dstore_n (C : Cx p l s m args meth c cc nL own ret G b) {n : Nat} {z : Fin 4} {i : Nat} {x : UInt64} {lv' : List (Nat × Value)} (d : decode cc pc = .ok (.dstore_n z, 1)) (hi : (z : Nat) = i) (hb : i + 1 < nL) (hl : st2 lv i (.double x) = lv') (hn : pc + 1 = n) (k : J p l e R s m args below meth c nL G b Q n lv' st S cells slots) : J p l e R s m args below meth c nL G b Q pc lv (.double x :: st) S cells slots := fun ls H locs h1 h2 h3 => by subst hn; exact lv_dstore_n C.1 C.2.1 d hi h1 hb hl (fun ls' h1 => k ls' H locs h1 h2 h3)
theorem r_dstore (C : Cx p l s m args meth c cc nL own ret G b) {n : Nat} {i : Nat} {x : UInt64} {lv' : List (Nat × Value)} (d : decode cc pc = .ok (.dstore i, 2)) (hb : i + 1 < nL) (hl : st2 lv i (.double x) = lv') (hn : pc + 2 = n) (k : J p l e R s m args below meth c nL G b Q n lv' st S cells slots) : J p l e R s m args below meth c nL G b Q pc lv (.double x :: st) S cells slots := fun ls H locs h1 h2 h3 => by subst hn; exact lv_dstore C.1 C.2.1 d h1 hb hl (fun ls' h1 => k ls' H locs h1 h2 h3)
theorem r_iinc (C : Cx p l s m args meth c cc nL own ret G b) {n : Nat} {i : Nat} {z : Int} {x v : Int32} {lv' : List (Nat × Value)} (d : decode cc pc = .ok (.iinc i z, 3)) (hx : lv.lookup i = some (.int x)) (hv : x + Int32.ofInt z = v) (hb : i < nL) (hl : st1 lv i (.int v) = lv') (hn : pc + 3 = n) (k : J p l e R s m args below meth c nL G b Q n lv' st S cells slots) : J p l e R s m args below meth c nL G b Q pc lv st S cells slots := fun ls H locs h1 h2 h3 => by
  subst hn
  have h1' : lv_has ls nL ((i, .int x) :: lv) := ⟨h1.1, h1.2.1, fun q hq => (List.mem_cons.mp hq).elim (fun e => by rw [e]; exact lk_at h1 hx) (fun h => h1.2.2 q h)⟩
  refine lv_iinc C.1 C.2.1 d h1' (k := 0) rfl hv hb (lv' := lv') ?_ (fun ls' h1 => k ls' H locs h1 h2 h3)
  rw [← hl]
  simp [st1]
theorem r_iadd (C : Cx p l s m args meth c cc nL own ret G b) {n : Nat} {x y : Int32} (d : decode cc pc = .ok (.iadd, 1))  (hn : pc + 1 = n) (k : J p l e R s m args below meth c nL G b Q n lv (.int (x + y) :: st) S cells slots) : J p l e R s m args below meth c nL G b Q pc lv (.int y :: .int x :: st) S cells slots := fun ls H locs h1 h2 h3 => by subst hn; exact lv_iadd C.1 C.2.1 d  (k ls H locs h1 h2 h3)
theorem r_isub (C : Cx p l s m args meth c cc nL own ret G b) {n : Nat} {x y : Int32} (d : decode cc pc = .ok (.isub, 1))  (hn : pc + 1 = n) (k : J p l e R s m args below meth c nL G b Q n lv (.int (x - y) :: st) S cells slots) : J p l e R s m args below meth c nL G b Q pc lv (.int y :: .int x :: st) S cells slots := fun ls H locs h1 h2 h3 => by subst hn; exact lv_isub C.1 C.2.1 d  (k ls H locs h1 h2 h3)
theorem r_imul (C : Cx p l s m args meth c cc nL own ret G b) {n : Nat} {x y : Int32} (d : decode cc pc = .ok (.imul, 1))  (hn : pc + 1 = n) (k : J p l e R s m args below meth c nL G b Q n lv (.int (x * y) :: st) S cells slots) : J p l e R s m args below meth c nL G b Q pc lv (.int y :: .int x :: st) S cells slots := fun ls H locs h1 h2 h3 => by subst hn; exact lv_imul C.1 C.2.1 d  (k ls H locs h1 h2 h3)
theorem r_iand (C : Cx p l s m args meth c cc nL own ret G b) {n : Nat} {x y : Int32} (d : decode cc pc = .ok (.iand, 1))  (hn : pc + 1 = n) (k : J p l e R s m args below meth c nL G b Q n lv (.int (x &&& y) :: st) S cells slots) : J p l e R s m args below meth c nL G b Q pc lv (.int y :: .int x :: st) S cells slots := fun ls H locs h1 h2 h3 => by subst hn; exact lv_iand C.1 C.2.1 d  (k ls H locs h1 h2 h3)
theorem r_ixor (C : Cx p l s m args meth c cc nL own ret G b) {n : Nat} {x y : Int32} (d : decode cc pc = .ok (.ixor, 1))  (hn : pc + 1 = n) (k : J p l e R s m args below meth c nL G b Q n lv (.int (x ^^^ y) :: st) S cells slots) : J p l e R s m args below meth c nL G b Q pc lv (.int y :: .int x :: st) S cells slots := fun ls H locs h1 h2 h3 => by subst hn; exact lv_ixor C.1 C.2.1 d  (k ls H locs h1 h2 h3)
theorem r_idiv (C : Cx p l s m args meth c cc nL own ret G b) {n : Nat} {x y : Int32} (d : decode cc pc = .ok (.idiv, 1)) (hz : ¬ y = 0) (hn : pc + 1 = n) (k : J p l e R s m args below meth c nL G b Q n lv (.int (x / y) :: st) S cells slots) : J p l e R s m args below meth c nL G b Q pc lv (.int y :: .int x :: st) S cells slots := fun ls H locs h1 h2 h3 => by subst hn; exact lv_idiv C.1 C.2.1 d hz (k ls H locs h1 h2 h3)
theorem r_irem (C : Cx p l s m args meth c cc nL own ret G b) {n : Nat} {x y : Int32} (d : decode cc pc = .ok (.irem, 1)) (hz : ¬ y = 0) (hn : pc + 1 = n) (k : J p l e R s m args below meth c nL G b Q n lv (.int (x - x / y * y) :: st) S cells slots) : J p l e R s m args below meth c nL G b Q pc lv (.int y :: .int x :: st) S cells slots := fun ls H locs h1 h2 h3 => by subst hn; exact lv_irem C.1 C.2.1 d hz (k ls H locs h1 h2 h3)
theorem r_ineg (C : Cx p l s m args meth c cc nL own ret G b) {n : Nat} {x : Int32} (d : decode cc pc = .ok (.ineg, 1))  (hn : pc + 1 = n) (k : J p l e R s m args below meth c nL G b Q n lv (.int (-x) :: st) S cells slots) : J p l e R s m args below meth c nL G b Q pc lv (.int x :: st) S cells slots := fun ls H locs h1 h2 h3 => by subst hn; exact lv_ineg C.1 C.2.1 d  (k ls H locs h1 h2 h3)
theorem r_ladd (C : Cx p l s m args meth c cc nL own ret G b) {n : Nat} {x y : Int64} (d : decode cc pc = .ok (.ladd, 1))  (hn : pc + 1 = n) (k : J p l e R s m args below meth c nL G b Q n lv (.long (x + y) :: st) S cells slots) : J p l e R s m args below meth c nL G b Q pc lv (.long y :: .long x :: st) S cells slots := fun ls H locs h1 h2 h3 => by subst hn; exact lv_ladd C.1 C.2.1 d  (k ls H locs h1 h2 h3)
theorem r_lsub (C : Cx p l s m args meth c cc nL own ret G b) {n : Nat} {x y : Int64} (d : decode cc pc = .ok (.lsub, 1))  (hn : pc + 1 = n) (k : J p l e R s m args below meth c nL G b Q n lv (.long (x - y) :: st) S cells slots) : J p l e R s m args below meth c nL G b Q pc lv (.long y :: .long x :: st) S cells slots := fun ls H locs h1 h2 h3 => by subst hn; exact lv_lsub C.1 C.2.1 d  (k ls H locs h1 h2 h3)
theorem r_lmul (C : Cx p l s m args meth c cc nL own ret G b) {n : Nat} {x y : Int64} (d : decode cc pc = .ok (.lmul, 1))  (hn : pc + 1 = n) (k : J p l e R s m args below meth c nL G b Q n lv (.long (x * y) :: st) S cells slots) : J p l e R s m args below meth c nL G b Q pc lv (.long y :: .long x :: st) S cells slots := fun ls H locs h1 h2 h3 => by subst hn; exact lv_lmul C.1 C.2.1 d  (k ls H locs h1 h2 h3)
theorem r_land (C : Cx p l s m args meth c cc nL own ret G b) {n : Nat} {x y : Int64} (d : decode cc pc = .ok (.land, 1))  (hn : pc + 1 = n) (k : J p l e R s m args below meth c nL G b Q n lv (.long (x &&& y) :: st) S cells slots) : J p l e R s m args below meth c nL G b Q pc lv (.long y :: .long x :: st) S cells slots := fun ls H locs h1 h2 h3 => by subst hn; exact lv_land C.1 C.2.1 d  (k ls H locs h1 h2 h3)
theorem r_lxor (C : Cx p l s m args meth c cc nL own ret G b) {n : Nat} {x y : Int64} (d : decode cc pc = .ok (.lxor, 1))  (hn : pc + 1 = n) (k : J p l e R s m args below meth c nL G b Q n lv (.long (x ^^^ y) :: st) S cells slots) : J p l e R s m args below meth c nL G b Q pc lv (.long y :: .long x :: st) S cells slots := fun ls H locs h1 h2 h3 => by subst hn; exact lv_lxor C.1 C.2.1 d  (k ls H locs h1 h2 h3)
theorem r_ldiv (C : Cx p l s m args meth c cc nL own ret G b) {n : Nat} {x y : Int64} (d : decode cc pc = .ok (.ldiv, 1)) (hz : ¬ y = 0) (hn : pc + 1 = n) (k : J p l e R s m args below meth c nL G b Q n lv (.long (x / y) :: st) S cells slots) : J p l e R s m args below meth c nL G b Q pc lv (.long y :: .long x :: st) S cells slots := fun ls H locs h1 h2 h3 => by subst hn; exact lv_ldiv C.1 C.2.1 d hz (k ls H locs h1 h2 h3)
theorem r_lrem (C : Cx p l s m args meth c cc nL own ret G b) {n : Nat} {x y : Int64} (d : decode cc pc = .ok (.lrem, 1)) (hz : ¬ y = 0) (hn : pc + 1 = n) (k : J p l e R s m args below meth c nL G b Q n lv (.long (x - x / y * y) :: st) S cells slots) : J p l e R s m args below meth c nL G b Q pc lv (.long y :: .long x :: st) S cells slots := fun ls H locs h1 h2 h3 => by subst hn; exact lv_lrem C.1 C.2.1 d hz (k ls H locs h1 h2 h3)
theorem r_lneg (C : Cx p l s m args meth c cc nL own ret G b) {n : Nat} {x : Int64} (d : decode cc pc = .ok (.lneg, 1))  (hn : pc + 1 = n) (k : J p l e R s m args below meth c nL G b Q n lv (.long (-x) :: st) S cells slots) : J p l e R s m args below meth c nL G b Q pc lv (.long x :: st) S cells slots := fun ls H locs h1 h2 h3 => by subst hn; exact lv_lneg C.1 C.2.1 d  (k ls H locs h1 h2 h3)
theorem r_dmul (C : Cx p l s m args meth c cc nL own ret G b) {n : Nat} {x y : UInt64} (d : decode cc pc = .ok (.dmul, 1)) (hz : vf_n64 (FP.dmul x y)) (hn : pc + 1 = n) (k : J p l e R s m args below meth c nL G b Q n lv (.double (FP.dmul x y) :: st) S cells slots) : J p l e R s m args below meth c nL G b Q pc lv (.double y :: .double x :: st) S cells slots := fun ls H locs h1 h2 h3 => by subst hn; exact lv_dmul C.1 C.2.1 d hz (k ls H locs h1 h2 h3)
theorem r_ddiv (C : Cx p l s m args meth c cc nL own ret G b) {n : Nat} {x y : UInt64} (d : decode cc pc = .ok (.ddiv, 1)) (hz : vf_n64 (FP.ddiv x y)) (hn : pc + 1 = n) (k : J p l e R s m args below meth c nL G b Q n lv (.double (FP.ddiv x y) :: st) S cells slots) : J p l e R s m args below meth c nL G b Q pc lv (.double y :: .double x :: st) S cells slots := fun ls H locs h1 h2 h3 => by subst hn; exact lv_ddiv C.1 C.2.1 d hz (k ls H locs h1 h2 h3)
theorem r_i2l (C : Cx p l s m args meth c cc nL own ret G b) {n : Nat} {x : Int32} (d : decode cc pc = .ok (.i2l, 1))  (hn : pc + 1 = n) (k : J p l e R s m args below meth c nL G b Q n lv (.long x.toInt64 :: st) S cells slots) : J p l e R s m args below meth c nL G b Q pc lv (.int x :: st) S cells slots := fun ls H locs h1 h2 h3 => by subst hn; exact lv_i2l C.1 C.2.1 d rfl (k ls H locs h1 h2 h3)
theorem r_l2i (C : Cx p l s m args meth c cc nL own ret G b) {n : Nat} {x : Int64} (d : decode cc pc = .ok (.l2i, 1))  (hn : pc + 1 = n) (k : J p l e R s m args below meth c nL G b Q n lv (.int x.toInt32 :: st) S cells slots) : J p l e R s m args below meth c nL G b Q pc lv (.long x :: st) S cells slots := fun ls H locs h1 h2 h3 => by subst hn; exact lv_l2i C.1 C.2.1 d rfl (k ls H locs h1 h2 h3)
theorem r_i2d (C : Cx p l s m args meth c cc nL own ret G b) {n : Nat} {x : Int32} (d : decode cc pc = .ok (.i2d, 1))  (hn : pc + 1 = n) (k : J p l e R s m args below meth c nL G b Q n lv (.double (FP.i2d x) :: st) S cells slots) : J p l e R s m args below meth c nL G b Q pc lv (.int x :: st) S cells slots := fun ls H locs h1 h2 h3 => by subst hn; exact lv_i2d C.1 C.2.1 d  (k ls H locs h1 h2 h3)
theorem r_l2d (C : Cx p l s m args meth c cc nL own ret G b) {n : Nat} {x : Int64} (d : decode cc pc = .ok (.l2d, 1))  (hn : pc + 1 = n) (k : J p l e R s m args below meth c nL G b Q n lv (.double (FP.l2d x) :: st) S cells slots) : J p l e R s m args below meth c nL G b Q pc lv (.long x :: st) S cells slots := fun ls H locs h1 h2 h3 => by subst hn; exact lv_l2d C.1 C.2.1 d  (k ls H locs h1 h2 h3)
theorem r_d2i (C : Cx p l s m args meth c cc nL own ret G b) {n : Nat} {x : UInt64} (d : decode cc pc = .ok (.d2i, 1))  (hn : pc + 1 = n) (k : J p l e R s m args below meth c nL G b Q n lv (.int (FP.d2i x) :: st) S cells slots) : J p l e R s m args below meth c nL G b Q pc lv (.double x :: st) S cells slots := fun ls H locs h1 h2 h3 => by subst hn; exact lv_d2i C.1 C.2.1 d  (k ls H locs h1 h2 h3)
theorem r_dcmp (C : Cx p l s m args meth c cc nL own ret G b) {n : Nat} {x y : UInt64} {op : CmpOp} (d : decode cc pc = .ok (.dcmp op, 1))  (hn : pc + 1 = n) (k : J p l e R s m args below meth c nL G b Q n lv (.int (Op.cmpValue (FP.dcmp x y) op) :: st) S cells slots) : J p l e R s m args below meth c nL G b Q pc lv (.double y :: .double x :: st) S cells slots := fun ls H locs h1 h2 h3 => by subst hn; exact lv_dcmp C.1 C.2.1 d  (k ls H locs h1 h2 h3)
theorem r_dup (C : Cx p l s m args meth c cc nL own ret G b) {n : Nat} {v : Value} (d : decode cc pc = .ok (.dup, 1)) (hc : v.category = 1) (hn : pc + 1 = n) (k : J p l e R s m args below meth c nL G b Q n lv (v :: v :: st) S cells slots) : J p l e R s m args below meth c nL G b Q pc lv (v :: st) S cells slots := fun ls H locs h1 h2 h3 => by subst hn; exact lv_dup C.1 C.2.1 d hc (k ls H locs h1 h2 h3)
theorem r_pop (C : Cx p l s m args meth c cc nL own ret G b) {n : Nat} {v : Value} (d : decode cc pc = .ok (.pop, 1)) (hc : v.category = 1) (hn : pc + 1 = n) (k : J p l e R s m args below meth c nL G b Q n lv (st) S cells slots) : J p l e R s m args below meth c nL G b Q pc lv (v :: st) S cells slots := fun ls H locs h1 h2 h3 => by subst hn; exact lv_pop C.1 C.2.1 d hc (k ls H locs h1 h2 h3)
theorem r_dup2_11 (C : Cx p l s m args meth c cc nL own ret G b) {n : Nat} {v w : Value} (d : decode cc pc = .ok (.dup2, 1)) (hc : v.category = 1) (hd : w.category = 1) (hn : pc + 1 = n) (k : J p l e R s m args below meth c nL G b Q n lv (v :: w :: v :: w :: st) S cells slots) : J p l e R s m args below meth c nL G b Q pc lv (v :: w :: st) S cells slots := fun ls H locs h1 h2 h3 => by subst hn; exact lv_dup2_11 C.1 C.2.1 d hc hd (k ls H locs h1 h2 h3)
theorem r_lcmp (C : Cx p l s m args meth c cc nL own ret G b) {n : Nat} {x y : Int64} (d : decode cc pc = .ok (.lcmp, 1))  (hn : pc + 1 = n) (k : J p l e R s m args below meth c nL G b Q n lv (.int (lg_cmp x y) :: st) S cells slots) : J p l e R s m args below meth c nL G b Q pc lv (.long y :: .long x :: st) S cells slots := fun ls H locs h1 h2 h3 => by subst hn; exact W.lcmp C.1 C.2.1 d (k ls H locs h1 h2 h3)
theorem r_if_eq (C : Cx p l s m args meth c cc nL own ret G b) {n t : Nat} {x : Int32} {off : Int} (d : decode cc pc = .ok (.ifCond .eq off, 3)) (ht : (pc : Int) + off = (t : Int)) (hn : pc + 3 = n) (kt : x = 0 → J p l e R s m args below meth c nL G b Q t lv st S cells slots) (kf : ¬ x = 0 → J p l e R s m args below meth c nL G b Q n lv st S cells slots) : J p l e R s m args below meth c nL G b Q pc lv (.int x :: st) S cells slots := fun ls H locs h1 h2 h3 => by subst hn; exact lv_if_eq C.1 C.2.1 d ht (fun z => kt z ls H locs h1 h2 h3) (fun z => kf z ls H locs h1 h2 h3)
theorem r_icmp_eq (C : Cx p l s m args meth c cc nL own ret G b) {n t : Nat} {x y : Int32} {off : Int} (d : decode cc pc = .ok (.if_icmp .eq off, 3)) (ht : (pc : Int) + off = (t : Int)) (hn : pc + 3 = n) (kt : x = y → J p l e R s m args below meth c nL G b Q t lv st S cells slots) (kf : ¬ x = y → J p l e R s m args below meth c nL G b Q n lv st S cells slots) : J p l e R s m args below meth c nL G b Q pc lv (.int y :: .int x :: st) S cells slots := fun ls H locs h1 h2 h3 => by subst hn; exact lv_icmp_eq C.1 C.2.1 d ht (fun z => kt z ls H locs h1 h2 h3) (fun z => kf z ls H locs h1 h2 h3)
theorem r_if_ne (C : Cx p l s m args meth c cc nL own ret G b) {n t : Nat} {x : Int32} {off : Int} (d : decode cc pc = .ok (.ifCond .ne off, 3)) (ht : (pc : Int) + off = (t : Int)) (hn : pc + 3 = n) (kt : ¬ x = 0 → J p l e R s m args below meth c nL G b Q t lv st S cells slots) (kf : x = 0 → J p l e R s m args below meth c nL G b Q n lv st S cells slots) : J p l e R s m args below meth c nL G b Q pc lv (.int x :: st) S cells slots := fun ls H locs h1 h2 h3 => by subst hn; exact lv_if_ne C.1 C.2.1 d ht (fun z => kt z ls H locs h1 h2 h3) (fun z => kf z ls H locs h1 h2 h3)
theorem r_icmp_ne (C : Cx p l s m args meth c cc nL own ret G b) {n t : Nat} {x y : Int32} {off : Int} (d : decode cc pc = .ok (.if_icmp .ne off, 3)) (ht : (pc : Int) + off = (t : Int)) (hn : pc + 3 = n) (kt : ¬ x = y → J p l e R s m args below meth c nL G b Q t lv st S cells slots) (kf : x = y → J p l e R s m args below meth c nL G b Q n lv st S cells slots) : J p l e R s m args below meth c nL G b Q pc lv (.int y :: .int x :: st) S cells slots := fun ls H locs h1 h2 h3 => by subst hn; exact lv_icmp_ne C.1 C.2.1 d ht (fun z => kt z ls H locs h1 h2 h3) (fun z => kf z ls H locs h1 h2 h3)
theorem r_if_lt (C : Cx p l s m args meth c cc nL own ret G b) {n t : Nat} {x : Int32} {off : Int} (d : decode cc pc = .ok (.ifCond .lt off, 3)) (ht : (pc : Int) + off = (t : Int)) (hn : pc + 3 = n) (kt : x < 0 → J p l e R s m args below meth c nL G b Q t lv st S cells slots) (kf : ¬ x < 0 → J p l e R s m args below meth c nL G b Q n lv st S cells slots) : J p l e R s m args below meth c nL G b Q pc lv (.int x :: st) S cells slots := fun ls H locs h1 h2 h3 => by subst hn; exact lv_if_lt C.1 C.2.1 d ht (fun z => kt z ls H locs h1 h2 h3) (fun z => kf z ls H locs h1 h2 h3)
theorem r_icmp_lt (C : Cx p l s m args meth c cc nL own ret G b) {n t : Nat} {x y : Int32} {off : Int} (d : decode cc pc = .ok (.if_icmp .lt off, 3)) (ht : (pc : Int) + off = (t : Int)) (hn : pc + 3 = n) (kt : x < y → J p l e R s m args below meth c nL G b Q t lv st S cells slots) (kf : ¬ x < y → J p l e R s m args below meth c nL G b Q n lv st S cells slots) : J p l e R s m args below meth c nL G b Q pc lv (.int y :: .int x :: st) S cells slots := fun ls H locs h1 h2 h3 => by subst hn; exact lv_icmp_lt C.1 C.2.1 d ht (fun z => kt z ls H locs h1 h2 h3) (fun z => kf z ls H locs h1 h2 h3)
theorem r_if_ge (C : Cx p l s m args meth c cc nL own ret G b) {n t : Nat} {x : Int32} {off : Int} (d : decode cc pc = .ok (.ifCond .ge off, 3)) (ht : (pc : Int) + off = (t : Int)) (hn : pc + 3 = n) (kt : 0 ≤ x → J p l e R s m args below meth c nL G b Q t lv st S cells slots) (kf : ¬ 0 ≤ x → J p l e R s m args below meth c nL G b Q n lv st S cells slots) : J p l e R s m args below meth c nL G b Q pc lv (.int x :: st) S cells slots := fun ls H locs h1 h2 h3 => by subst hn; exact lv_if_ge C.1 C.2.1 d ht (fun z => kt z ls H locs h1 h2 h3) (fun z => kf z ls H locs h1 h2 h3)
theorem r_icmp_ge (C : Cx p l s m args meth c cc nL own ret G b) {n t : Nat} {x y : Int32} {off : Int} (d : decode cc pc = .ok (.if_icmp .ge off, 3)) (ht : (pc : Int) + off = (t : Int)) (hn : pc + 3 = n) (kt : y ≤ x → J p l e R s m args below meth c nL G b Q t lv st S cells slots) (kf : ¬ y ≤ x → J p l e R s m args below meth c nL G b Q n lv st S cells slots) : J p l e R s m args below meth c nL G b Q pc lv (.int y :: .int x :: st) S cells slots := fun ls H locs h1 h2 h3 => by subst hn; exact lv_icmp_ge C.1 C.2.1 d ht (fun z => kt z ls H locs h1 h2 h3) (fun z => kf z ls H locs h1 h2 h3)
theorem r_if_gt (C : Cx p l s m args meth c cc nL own ret G b) {n t : Nat} {x : Int32} {off : Int} (d : decode cc pc = .ok (.ifCond .gt off, 3)) (ht : (pc : Int) + off = (t : Int)) (hn : pc + 3 = n) (kt : 0 < x → J p l e R s m args below meth c nL G b Q t lv st S cells slots) (kf : ¬ 0 < x → J p l e R s m args below meth c nL G b Q n lv st S cells slots) : J p l e R s m args below meth c nL G b Q pc lv (.int x :: st) S cells slots := fun ls H locs h1 h2 h3 => by subst hn; exact lv_if_gt C.1 C.2.1 d ht (fun z => kt z ls H locs h1 h2 h3) (fun z => kf z ls H locs h1 h2 h3)
theorem r_icmp_gt (C : Cx p l s m args meth c cc nL own ret G b) {n t : Nat} {x y : Int32} {off : Int} (d : decode cc pc = .ok (.if_icmp .gt off, 3)) (ht : (pc : Int) + off = (t : Int)) (hn : pc + 3 = n) (kt : y < x → J p l e R s m args below meth c nL G b Q t lv st S cells slots) (kf : ¬ y < x → J p l e R s m args below meth c nL G b Q n lv st S cells slots) : J p l e R s m args below meth c nL G b Q pc lv (.int y :: .int x :: st) S cells slots := fun ls H locs h1 h2 h3 => by subst hn; exact lv_icmp_gt C.1 C.2.1 d ht (fun z => kt z ls H locs h1 h2 h3) (fun z => kf z ls H locs h1 h2 h3)
theorem r_if_le (C : Cx p l s m args meth c cc nL own ret G b) {n t : Nat} {x : Int32} {off : Int} (d : decode cc pc = .ok (.ifCond .le off, 3)) (ht : (pc : Int) + off = (t : Int)) (hn : pc + 3 = n) (kt : x ≤ 0 → J p l e R s m args below meth c nL G b Q t lv st S cells slots) (kf : ¬ x ≤ 0 → J p l e R s m args below meth c nL G b Q n lv st S cells slots) : J p l e R s m args below meth c nL G b Q pc lv (.int x :: st) S cells slots := fun ls H locs h1 h2 h3 => by subst hn; exact lv_if_le C.1 C.2.1 d ht (fun z => kt z ls H locs h1 h2 h3) (fun z => kf z ls H locs h1 h2 h3)
theorem r_icmp_le (C : Cx p l s m args meth c cc nL own ret G b) {n t : Nat} {x y : Int32} {off : Int} (d : decode cc pc = .ok (.if_icmp .le off, 3)) (ht : (pc : Int) + off = (t : Int)) (hn : pc + 3 = n) (kt : x ≤ y → J p l e R s m args below meth c nL G b Q t lv st S cells slots) (kf : ¬ x ≤ y → J p l e R s m args below meth c nL G b Q n lv st S cells slots) : J p l e R s m args below meth c nL G b Q pc lv (.int y :: .int x :: st) S cells slots := fun ls H locs h1 h2 h3 => by subst hn; exact lv_icmp_le C.1 C.2.1 d ht (fun z => kt z ls H locs h1 h2 h3) (fun z => kf z ls H locs h1 h2 h3)
theorem r_goto (C : Cx p l s m args meth c cc nL own ret G b) {t : Nat} {off : Int} (d : decode cc pc = .ok (.goto off, 3)) (ht : (pc : Int) + off = (t : Int)) (k : J p l e R s m args below meth c nL G b Q t lv st S cells slots) : J p l e R s m args below meth c nL G b Q pc lv st S cells slots := fun ls H locs h1 h2 h3 => lv_goto C.1 C.2.1 d ht (k ls H locs h1 h2 h3)
theorem r_ifnonnull (C : Cx p l s m args meth c cc nL own ret G b) {t x : Nat} {off : Int} (d : decode cc pc = .ok (.ifnonnull off, 3)) (ht : (pc : Int) + off = (t : Int)) (k : J p l e R s m args below meth c nL G b Q t lv st S cells slots) : J p l e R s m args below meth c nL G b Q pc lv (.ref x :: st) S cells slots := fun ls H locs h1 h2 h3 => lv_ifnonnull C.1 C.2.1 d ht (k ls H locs h1 h2 h3)
theorem r_ifnonnullN (C : Cx p l s m args meth c cc nL own ret G b) {n : Nat} {off : Int} (d : decode cc pc = .ok (.ifnonnull off, 3)) (hn : pc + 3 = n) (k : J p l e R s m args below meth c nL G b Q n lv st S cells slots) : J p l e R s m args below meth c nL G b Q pc lv (.null :: st) S cells slots := fun ls H locs h1 h2 h3 => by subst hn; exact lv_ifnonnullN C.1 C.2.1 d (k ls H locs h1 h2 h3)
theorem r_ldc (C : Cx p l s m args meth c cc nL own ret G b) {n index : Nat} {v : Int32} (hw : Jvm.Cond.constant own index v ∈ TB) (d : decode cc pc = .ok (.ldc index, 2)) (hn : pc + 2 = n) (k : J p l e R s m args below meth c nL G b Q n lv (.int v :: st) S cells slots) : J p l e R s m args below meth c nL G b Q pc lv st S cells slots := fun ls H locs h1 h2 h3 => by subst hn; exact lv_ldc C.1 C.2.1 C.2.2.2.1 (C.w hw) d (k ls H locs h1 h2 h3)
theorem r_ldc2 (C : Cx p l s m args meth c cc nL own ret G b) {n index : Nat} {v : Int64} (hw : Jvm.Cond.constantLong own index v ∈ TB) (d : decode cc pc = .ok (.ldc2_w index, 3)) (hn : pc + 3 = n) (k : J p l e R s m args below meth c nL G b Q n lv (.long v :: st) S cells slots) : J p l e R s m args below meth c nL G b Q pc lv st S cells slots := fun ls H locs h1 h2 h3 => by subst hn; exact lv_ldc2 C.1 C.2.1 C.2.2.2.1 (C.w hw) d (k ls H locs h1 h2 h3)
theorem r_ldc2d (C : Cx p l s m args meth c cc nL own ret G b) {n index : Nat} {v : UInt64} (hw : Jvm.Cond.constantDouble own index v ∈ TB) (d : decode cc pc = .ok (.ldc2_w index, 3)) (hn : pc + 3 = n) (k : J p l e R s m args below meth c nL G b Q n lv (.double v :: st) S cells slots) : J p l e R s m args below meth c nL G b Q pc lv st S cells slots := fun ls H locs h1 h2 h3 => by subst hn; exact lv_ldc2d C.1 C.2.1 C.2.2.2.1 (C.w hw) d (k ls H locs h1 h2 h3)
/-! ===== reading and writing the pool ===== -/
theorem r_get (C : Cx p l s m args meth c cc nL own ret G b) {n a ci N index : Nat} {ref Cn : String} {T : u_T} {fs : List Value} (hK : sK S a ≠ 0) (he : ent G S a = .inr (ci, fs)) (hc : vwCl[ci]? = some (Cn, T, N)) (k : Nat) (hk : k < N) (hin : ∀ w ∈ u_ws Cn T N, w ∈ TB)
    (hlink : (Cond.fieldLink own index ref (T k).2.1 (T k).2.2.1).before args s = true) (hsame : ∀ x, s.fieldFound? (T k).1 (T k).2.1 (T k).2.2.1 = some x → s.fieldFound? ref (T k).2.1 (T k).2.2.1 = some x) {v : Value} (hv : fs[k]? = some v) (d : decode cc pc = .ok (.getfield index, 3)) (hn : pc + 3 = n)
    (kk : J p l e R s m args below meth c nL G b Q n lv (v :: st) S cells slots) : J p l e R s m args below meth c nL G b Q pc lv (.ref a :: st) S cells slots := by
  subst hn
  intro ls H locs h1 h2 h3
  obtain ⟨ws, q, hP, hD, hq, -, -⟩ := h2.at hK
  rw [he] at hq
  exact va_get C.1 C.2.1 C.2.2.2.2.1 hin C.2.2.2.1 C.K hP q hq hc k hk hlink hsame hv d (kk ls H locs h1 h2 h3)
theorem r_getN (C : Cx p l s m args meth c cc nL own ret G b) {n a ci N index : Nat} {ref Cn host : String} {T : u_T} {fs : List Value} (hK : sK S a ≠ 0) (he : ent G S a = .inr (ci, fs)) (hc : vwCl[ci]? = some (Cn, T, N)) (k : Nat) (hk : k < N) (hin : ∀ w ∈ u_ws Cn T N, w ∈ TB)
    (hlink : (Cond.fieldLinkNest own index ref (T k).2.1 (T k).2.2.1 host).before args s = true) (hsame : ∀ x, s.fieldFound? (T k).1 (T k).2.1 (T k).2.2.1 = some x → s.fieldFound? ref (T k).2.1 (T k).2.2.1 = some x) {v : Value} (hv : fs[k]? = some v) (d : decode cc pc = .ok (.getfield index, 3)) (hn : pc + 3 = n)
    (kk : J p l e R s m args below meth c nL G b Q n lv (v :: st) S cells slots) : J p l e R s m args below meth c nL G b Q pc lv (.ref a :: st) S cells slots := by
  subst hn
  intro ls H locs h1 h2 h3
  obtain ⟨ws, q, hP, hD, hq, -, -⟩ := h2.at hK
  rw [he] at hq
  exact va_getN C.1 C.2.1 C.2.2.2.2.1 hin C.2.2.2.1 C.K hP q hq hc k hk hlink hsame hv d (kk ls H locs h1 h2 h3)
theorem r_put (C : Cx p l s m args meth c cc nL own ret G b) {n a ci N index : Nat} {ref Cn : String} {T : u_T} {ty0 : Nat → FieldType} {fs : List Value} {S' : Sw} (hK : sK S a ≠ 0) (he : ent G S a = .inr (ci, fs)) (hc : vwCl[ci]? = some (Cn, T, N)) (k : Nat) (hk : k < N) (hin : ∀ w ∈ u_ws Cn T N, w ∈ TB)
    (hty : ∀ k, k < N → parseFieldDescriptor (T k).2.2.1 = some (ty0 k)) (hnm : ∀ a, a < N → ∀ b, b < N → a ≠ b → (T a).2.1 ≠ (T b).2.1)
    (hlink : (Cond.fieldLink own index ref (T k).2.1 (T k).2.2.1).before args s = true) (hsame : ∀ x, s.fieldFound? (T k).1 (T k).2.1 (T k).2.2.1 = some x → s.fieldFound? ref (T k).2.1 (T k).2.2.1 = some x) {ty : FieldType} {v : Value} (hfin : (T k).2.2.2 = false ∨ ((T k).2.2.2 = true ∧ meth.name = "<init>" ∧ (T k).1 = own)) (hd : parseFieldDescriptor (T k).2.2.1 = some ty) (hnr : narrow ty v = v) (hfit : fits ty v = true) (hl : k < fs.length)
    (hs : ent G S' a = .inr (ci, fs.set k v)) (hx : ∀ x, x ≠ a → ent G S' x = ent G S x) (hKK : ∀ x, sK S' x ≠ 0 → sK S x ≠ 0) (d : decode cc pc = .ok (.putfield index, 3)) (hn : pc + 3 = n)
    (kk : J p l e R s m args below meth c nL G b Q n lv st S' cells slots) : J p l e R s m args below meth c nL G b Q pc lv (v :: .ref a :: st) S cells slots := by
  subst hn
  intro ls H locs h1 h2 h3
  obtain ⟨ws, q, hP, hD, hq, hset, -⟩ := h2.at hK
  rw [he] at hq
  rcases hfin with hfin | ⟨hfin, hin2, hdecl⟩
  · exact va_put C.1 C.2.1 C.2.2.2.2.1 hin ty0 hty hnm C.2.2.2.1 C.K hP hD h3 q hq hc k hk hlink hsame hfin hd hnr hfit hl d (fun H1 locs1 g1 g2 g3 => kk ls H1 locs1 h1 (hset S' H1 _ g1 g2 hs hx hKK) g3)
  · exact va_putF C.1 C.2.1 C.2.2.2.2.1 hin ty0 hty hnm C.2.2.2.1 C.K hP hD h3 q hq hc k hk hlink hsame hfin hin2 hdecl hd hnr hfit hl d (fun H1 locs1 g1 g2 g3 => kk ls H1 locs1 h1 (hset S' H1 _ g1 g2 hs hx hKK) g3)
theorem r_putN (C : Cx p l s m args meth c cc nL own ret G b) {n a ci N index : Nat} {ref Cn host : String} {T : u_T} {ty0 : Nat → FieldType} {fs : List Value} {S' : Sw} (hK : sK S a ≠ 0) (he : ent G S a = .inr (ci, fs)) (hc : vwCl[ci]? = some (Cn, T, N)) (k : Nat) (hk : k < N) (hin : ∀ w ∈ u_ws Cn T N, w ∈ TB)
    (hty : ∀ k, k < N → parseFieldDescriptor (T k).2.2.1 = some (ty0 k)) (hnm : ∀ a, a < N → ∀ b, b < N → a ≠ b → (T a).2.1 ≠ (T b).2.1)
    (hlink : (Cond.fieldLinkNest own index ref (T k).2.1 (T k).2.2.1 host).before args s = true) (hsame : ∀ x, s.fieldFound? (T k).1 (T k).2.1 (T k).2.2.1 = some x → s.fieldFound? ref (T k).2.1 (T k).2.2.1 = some x) {ty : FieldType} {v : Value} (hfin : (T k).2.2.2 = false) (hd : parseFieldDescriptor (T k).2.2.1 = some ty) (hnr : narrow ty v = v) (hfit : fits ty v = true) (hl : k < fs.length)
    (hs : ent G S' a = .inr (ci, fs.set k v)) (hx : ∀ x, x ≠ a → ent G S' x = ent G S x) (hKK : ∀ x, sK S' x ≠ 0 → sK S x ≠ 0) (d : decode cc pc = .ok (.putfield index, 3)) (hn : pc + 3 = n)
    (kk : J p l e R s m args below meth c nL G b Q n lv st S' cells slots) : J p l e R s m args below meth c nL G b Q pc lv (v :: .ref a :: st) S cells slots := by
  subst hn
  intro ls H locs h1 h2 h3
  obtain ⟨ws, q, hP, hD, hq, hset, -⟩ := h2.at hK
  rw [he] at hq
  exact va_putN C.1 C.2.1 C.2.2.2.2.1 hin ty0 hty hnm C.2.2.2.1 C.K hP hD h3 q hq hc k hk hlink hsame hfin hd hnr hfit hl d (fun H1 locs1 g1 g2 g3 => kk ls H1 locs1 h1 (hset S' H1 _ g1 g2 hs hx hKK) g3)
/-- a place of an array, by a number -/
theorem r_iald (C : Cx p l s m args meth c cc nL own ret G b) {n a j : Nat} {i : Int32} (hK : sK S a = 9) (hi : i = nI j) (hj : j < aN S a) (hb : aN S a < 2 ^ 31) (d : decode cc pc = .ok (.iaload, 1)) (hn : pc + 1 = n)
    (kk : J p l e R s m args below meth c nL G b Q n lv (.int (aI S a j) :: st) S cells slots) : J p l e R s m args below meth c nL G b Q pc lv (.int i :: .ref a :: st) S cells slots := by
  subst hn; subst hi
  intro ls H locs h1 h2 h3
  obtain ⟨ws, q, hP, hD, hq, -, -⟩ := h2.at (by rw [hK]; decide : sK S a ≠ 0)
  rw [ent_9 hK] at hq
  refine va_iald C.1 C.2.1 C.K hP q 0 hq rfl (vp_in_nI hj hb) d ?_
  rw [nI_clamp (by omega)]
  exact kk ls H locs h1 h2 h3
theorem r_zald (C : Cx p l s m args meth c cc nL own ret G b) {n a j : Nat} {i : Int32} (hK : sK S a = 10) (hi : i = nI j) (hj : j < aN S a) (hb : aN S a < 2 ^ 31) (d : decode cc pc = .ok (.baload, 1)) (hn : pc + 1 = n)
    (kk : J p l e R s m args below meth c nL G b Q n lv (.int (aI S a j) :: st) S cells slots) : J p l e R s m args below meth c nL G b Q pc lv (.int i :: .ref a :: st) S cells slots := by
  subst hn; subst hi
  intro ls H locs h1 h2 h3
  obtain ⟨ws, q, hP, hD, hq, -, -⟩ := h2.at (by rw [hK]; decide : sK S a ≠ 0)
  rw [ent_10 hK] at hq
  refine va_zald C.1 C.2.1 C.K hP q 1 hq rfl (vp_in_nI hj hb) d ?_
  rw [nI_clamp (by omega)]
  exact kk ls H locs h1 h2 h3
theorem r_lald (C : Cx p l s m args meth c cc nL own ret G b) {n a j : Nat} {i : Int32} (hK : sK S a = 11) (hi : i = nI j) (hj : j < aN S a) (hb : aN S a < 2 ^ 31) (d : decode cc pc = .ok (.laload, 1)) (hn : pc + 1 = n)
    (kk : J p l e R s m args below meth c nL G b Q n lv (.long (aJ S a j) :: st) S cells slots) : J p l e R s m args below meth c nL G b Q pc lv (.int i :: .ref a :: st) S cells slots := by
  subst hn; subst hi
  intro ls H locs h1 h2 h3
  obtain ⟨ws, q, hP, hD, hq, -, -⟩ := h2.at (by rw [hK]; decide : sK S a ≠ 0)
  rw [ent_11 hK] at hq
  refine va_lald C.1 C.2.1 C.K hP q 2 hq rfl (vp_in_nI hj hb) d ?_
  rw [nI_clamp (by omega)]
  exact kk ls H locs h1 h2 h3
theorem r_dald (C : Cx p l s m args meth c cc nL own ret G b) {n a j : Nat} {i : Int32} (hK : sK S a = 12) (hi : i = nI j) (hj : j < aN S a) (hb : aN S a < 2 ^ 31) (d : decode cc pc = .ok (.daload, 1)) (hn : pc + 1 = n)
    (kk : J p l e R s m args below meth c nL G b Q n lv (.double (aD S a j) :: st) S cells slots) : J p l e R s m args below meth c nL G b Q pc lv (.int i :: .ref a :: st) S cells slots := by
  subst hn; subst hi
  intro ls H locs h1 h2 h3
  obtain ⟨ws, q, hP, hD, hq, -, -⟩ := h2.at (by rw [hK]; decide : sK S a ≠ 0)
  rw [ent_12 hK] at hq
  refine va_dald C.1 C.2.1 C.K hP q 3 hq rfl (vp_in_nI hj hb) d ?_
  rw [nI_clamp (by omega)]
  exact kk ls H locs h1 h2 h3
theorem r_aaldC (C : Cx p l s m args meth c cc nL own ret G b) {n a j : Nat} {i : Int32} {v : Value} (hK : sK S a = 13) (hi : i = nI j) (hj : j < aN S a) (hb : aN S a < 2 ^ 31) (hv : va_rf (aR S a j) = v) (d : decode cc pc = .ok (.aaload, 1)) (hn : pc + 1 = n)
    (kk : J p l e R s m args below meth c nL G b Q n lv (v :: st) S cells slots) : J p l e R s m args below meth c nL G b Q pc lv (.int i :: .ref a :: st) S cells slots := by
  subst hn; subst hi; subst hv
  intro ls H locs h1 h2 h3
  obtain ⟨ws, q, hP, hD, hq, -, -⟩ := h2.at (by rw [hK]; decide : sK S a ≠ 0)
  rw [ent_13 hK] at hq
  refine va_aldq C.1 C.2.1 C.K hP q 4 hq rfl (vp_in_nI hj hb) d ?_
  rw [nI_clamp (by omega)]
  exact kk ls H locs h1 h2 h3
theorem r_aaldI (C : Cx p l s m args meth c cc nL own ret G b) {n a j x : Nat} {i : Int32} (hK : sK S a = 14) (hi : i = nI j) (hj : j < aN S a) (hb : aN S a < 2 ^ 31) (hv : aR S a j = some x) (d : decode cc pc = .ok (.aaload, 1)) (hn : pc + 1 = n)
    (kk : J p l e R s m args below meth c nL G b Q n lv (.ref x :: st) S cells slots) : J p l e R s m args below meth c nL G b Q pc lv (.int i :: .ref a :: st) S cells slots := by
  subst hn; subst hi
  intro ls H locs h1 h2 h3
  obtain ⟨ws, q, hP, hD, hq, -, -⟩ := h2.at (by rw [hK]; decide : sK S a ≠ 0)
  rw [ent_14 hK] at hq
  refine W.aald (v := va_rf (aR S a j)) (ty := .array .int) C.1 C.2.1 (hP q _ hq) ((C.K.2 5 _ rfl).1 (aN S a) (fun j => va_rf (aR S a j))) rfl (fun q => by cases q) (by show ¬ (nI j < 0 ∨ (arrV _ _ _).slots.size ≤ _); rw [arrV_size]; exact vp_in_nI hj hb) (by show (arrV _ _ _).slots[_]? = _; rw [nI_clamp (by omega), arrV_read _ _ hj]) rfl rfl d ?_
  rw [hv]
  exact kk ls H locs h1 h2 h3
theorem r_alen (C : Cx p l s m args meth c cc nL own ret G b) {n a : Nat} {v : Int32} (hK : sK S a = 9) (hv : nI (aN S a) = v) (d : decode cc pc = .ok (.arraylength, 1)) (hn : pc + 1 = n)
    (kk : J p l e R s m args below meth c nL G b Q n lv (.int v :: st) S cells slots) : J p l e R s m args below meth c nL G b Q pc lv (.ref a :: st) S cells slots := by
  subst hn
  intro ls H locs h1 h2 h3
  obtain ⟨ws, q, hP, hD, hq, -, -⟩ := h2.at (by rw [hK]; decide : sK S a ≠ 0)
  rw [ent_9 hK] at hq
  exact va_alen C.1 C.2.1 C.K hP q 0 hq (ty := .int) rfl hv d (kk ls H locs h1 h2 h3)
theorem ent_ne {S S' : Sw} {a : Nat} (h1 : ∀ x, sK S' x = sK S x) (h2 : ∀ f x, x ≠ a → fI S' f x = fI S f x) (h3 : ∀ f x, x ≠ a → fJ S' f x = fJ S f x) (h4 : ∀ f x, x ≠ a → fR S' f x = fR S f x) (h5 : ∀ x, x ≠ a → aN S' x = aN S x) (h6 : ∀ x i, x ≠ a → aI S' x i = aI S x i) (h7 : ∀ x i, x ≠ a → aR S' x i = aR S x i) (h8 : ∀ x i, x ≠ a → aD S' x i = aD S x i) (h9 : ∀ x i, x ≠ a → aJ S' x i = aJ S x i) : ∀ x, x ≠ a → ent G S' x = ent G S x := by
  intro x hx
  unfold ent
  rw [h1 x, h5 x hx, funext (fun i => h6 x i hx), funext (fun i => h7 x i hx), funext (fun i => h8 x i hx), funext (fun i => h9 x i hx)]
  simp only [h2 _ x hx, h3 _ x hx, h4 _ x hx]
theorem up2_ne {α : Type} {F : Nat → Nat → α} {f a x g : Nat} {v : α} (h : x ≠ a) : up2 F f a v g x = F g x := if_neg (fun z => h z.2)
theorem up2_ne1 {α : Type} {F : Nat → Nat → α} {f a x g : Nat} {v : α} (h : x ≠ f) : up2 F f a v x g = F x g := if_neg (fun z => h z.1)
theorem uI_ne {f a : Nat} {v : Int32} : ∀ x, x ≠ a → ent G (uI S f a v) x = ent G S x := ent_ne (fun _ => rfl) (fun _ _ h => up2_ne h) (fun _ _ _ => rfl) (fun _ _ _ => rfl) (fun _ _ => rfl) (fun _ _ _ => rfl) (fun _ _ _ => rfl) (fun _ _ _ => rfl) (fun _ _ _ => rfl)
theorem uJ_ne {f a : Nat} {v : Int64} : ∀ x, x ≠ a → ent G (uJ S f a v) x = ent G S x := ent_ne (fun _ => rfl) (fun _ _ _ => rfl) (fun _ _ h => up2_ne h) (fun _ _ _ => rfl) (fun _ _ => rfl) (fun _ _ _ => rfl) (fun _ _ _ => rfl) (fun _ _ _ => rfl) (fun _ _ _ => rfl)
theorem uR_ne {f a : Nat} {v : Option Nat} : ∀ x, x ≠ a → ent G (uR S f a v) x = ent G S x := ent_ne (fun _ => rfl) (fun _ _ _ => rfl) (fun _ _ _ => rfl) (fun _ _ h => up2_ne h) (fun _ _ => rfl) (fun _ _ _ => rfl) (fun _ _ _ => rfl) (fun _ _ _ => rfl) (fun _ _ _ => rfl)
theorem wI_ne {a j : Nat} {v : Int32} : ∀ x, x ≠ a → ent G (wI S a j v) x = ent G S x := ent_ne (fun _ => rfl) (fun _ _ _ => rfl) (fun _ _ _ => rfl) (fun _ _ _ => rfl) (fun _ _ => rfl) (fun _ _ h => up2_ne1 h) (fun _ _ _ => rfl) (fun _ _ _ => rfl) (fun _ _ _ => rfl)
theorem wR_ne {a j : Nat} {v : Option Nat} : ∀ x, x ≠ a → ent G (wR S a j v) x = ent G S x := ent_ne (fun _ => rfl) (fun _ _ _ => rfl) (fun _ _ _ => rfl) (fun _ _ _ => rfl) (fun _ _ => rfl) (fun _ _ _ => rfl) (fun _ _ h => up2_ne1 h) (fun _ _ _ => rfl) (fun _ _ _ => rfl)
theorem wD_ne {a j : Nat} {v : UInt64} : ∀ x, x ≠ a → ent G (wD S a j v) x = ent G S x := ent_ne (fun _ => rfl) (fun _ _ _ => rfl) (fun _ _ _ => rfl) (fun _ _ _ => rfl) (fun _ _ => rfl) (fun _ _ _ => rfl) (fun _ _ _ => rfl) (fun _ _ h => up2_ne1 h) (fun _ _ _ => rfl)
theorem wJ_ne {a j : Nat} {v : Int64} : ∀ x, x ≠ a → ent G (wJ S a j v) x = ent G S x := ent_ne (fun _ => rfl) (fun _ _ _ => rfl) (fun _ _ _ => rfl) (fun _ _ _ => rfl) (fun _ _ => rfl) (fun _ _ _ => rfl) (fun _ _ _ => rfl) (fun _ _ _ => rfl) (fun _ _ h => up2_ne1 h)
theorem wIs_ne {a : Nat} {r : Nat → Int32} : ∀ x, x ≠ a → ent G (wIs S a r) x = ent G S x := ent_ne (fun _ => rfl) (fun _ _ _ => rfl) (fun _ _ _ => rfl) (fun _ _ _ => rfl) (fun _ _ => rfl) (fun _ _ h => if_neg h) (fun _ _ _ => rfl) (fun _ _ _ => rfl) (fun _ _ _ => rfl)
theorem r_iast (C : Cx p l s m args meth c cc nL own ret G b) {n a j : Nat} {i x : Int32} (hK : sK S a = 9) (hi : i = nI j) (hj : j < aN S a) (hb : aN S a < 2 ^ 31) (d : decode cc pc = .ok (.iastore, 1)) (hn : pc + 1 = n)
    (kk : J p l e R s m args below meth c nL G b Q n lv st (wI S a j x) cells slots) : J p l e R s m args below meth c nL G b Q pc lv (.int x :: .int i :: .ref a :: st) S cells slots := by
  subst hn; subst hi
  intro ls H locs h1 h2 h3
  obtain ⟨ws, q, hP, hD, hq, hset, -⟩ := h2.at (by rw [hK]; decide : sK S a ≠ 0)
  rw [ent_9 hK] at hq
  refine va_iast C.1 C.2.1 C.K hP hD h3 q 0 hq rfl (vp_in_nI hj hb) d (fun H1 locs1 g1 g2 g3 => kk ls H1 locs1 h1 (hset _ H1 _ g1 g2 ?_ wI_ne (fun _ h => h)) g3)
  rw [ent_9 (show sK (wI S a j x) a = 9 from hK), nI_clamp (by omega)]
  refine congrArg (fun f => Sum.inl (G.2 0, aN S a, Sum.inl f)) (funext fun k => ?_)
  show (if a = a ∧ k = j then x else aI S a k) = upd (aI S a) j x k
  simp [upd]
theorem r_zast (C : Cx p l s m args meth c cc nL own ret G b) {n a j : Nat} {i x : Int32} (hK : sK S a = 10) (hi : i = nI j) (hj : j < aN S a) (hb : aN S a < 2 ^ 31) (hx : vp_nar .boolean x = x) (d : decode cc pc = .ok (.bastore, 1)) (hn : pc + 1 = n)
    (kk : J p l e R s m args below meth c nL G b Q n lv st (wI S a j x) cells slots) : J p l e R s m args below meth c nL G b Q pc lv (.int x :: .int i :: .ref a :: st) S cells slots := by
  subst hn; subst hi
  intro ls H locs h1 h2 h3
  obtain ⟨ws, q, hP, hD, hq, hset, -⟩ := h2.at (by rw [hK]; decide : sK S a ≠ 0)
  rw [ent_10 hK] at hq
  refine va_zast C.1 C.2.1 C.K hP hD h3 q 1 hq rfl (vp_in_nI hj hb) d (fun H1 locs1 g1 g2 g3 => kk ls H1 locs1 h1 (hset _ H1 _ g1 g2 ?_ wI_ne (fun _ h => h)) g3)
  rw [ent_10 (show sK (wI S a j x) a = 10 from hK), nI_clamp (by omega), hx]
  refine congrArg (fun f => Sum.inl (G.2 1, aN S a, Sum.inl f)) (funext fun k => ?_)
  show (if a = a ∧ k = j then x else aI S a k) = upd (aI S a) j x k
  simp [upd]
theorem r_last (C : Cx p l s m args meth c cc nL own ret G b) {n a j : Nat} {i : Int32} {x : Int64} (hK : sK S a = 11) (hi : i = nI j) (hj : j < aN S a) (hb : aN S a < 2 ^ 31) (d : decode cc pc = .ok (.lastore, 1)) (hn : pc + 1 = n)
    (kk : J p l e R s m args below meth c nL G b Q n lv st (wJ S a j x) cells slots) : J p l e R s m args below meth c nL G b Q pc lv (.long x :: .int i :: .ref a :: st) S cells slots := by
  subst hn; subst hi
  intro ls H locs h1 h2 h3
  obtain ⟨ws, q, hP, hD, hq, hset, -⟩ := h2.at (by rw [hK]; decide : sK S a ≠ 0)
  rw [ent_11 hK] at hq
  refine va_last C.1 C.2.1 C.K hP hD h3 q 2 hq rfl (vp_in_nI hj hb) d (fun H1 locs1 g1 g2 g3 => kk ls H1 locs1 h1 (hset _ H1 _ g1 g2 ?_ wJ_ne (fun _ h => h)) g3)
  rw [ent_11 (show sK (wJ S a j x) a = 11 from hK), nI_clamp (by omega)]
  refine congrArg (fun f => Sum.inl (G.2 2, aN S a, Sum.inr (Sum.inl f))) (funext fun k => ?_)
  show (if a = a ∧ k = j then x else aJ S a k) = vp_updL (aJ S a) j x k
  simp [vp_updL]
theorem r_dast (C : Cx p l s m args meth c cc nL own ret G b) {n a j : Nat} {i : Int32} {x : UInt64} (hK : sK S a = 12) (hi : i = nI j) (hj : j < aN S a) (hb : aN S a < 2 ^ 31) (d : decode cc pc = .ok (.dastore, 1)) (hn : pc + 1 = n)
    (kk : J p l e R s m args below meth c nL G b Q n lv st (wD S a j x) cells slots) : J p l e R s m args below meth c nL G b Q pc lv (.double x :: .int i :: .ref a :: st) S cells slots := by
  subst hn; subst hi
  intro ls H locs h1 h2 h3
  obtain ⟨ws, q, hP, hD, hq, hset, -⟩ := h2.at (by rw [hK]; decide : sK S a ≠ 0)
  rw [ent_12 hK] at hq
  refine va_dast C.1 C.2.1 C.K hP hD h3 q 3 hq rfl (vp_in_nI hj hb) d (fun H1 locs1 g1 g2 g3 => kk ls H1 locs1 h1 (hset _ H1 _ g1 g2 ?_ wD_ne (fun _ h => h)) g3)
  rw [ent_12 (show sK (wD S a j x) a = 12 from hK), nI_clamp (by omega)]
  refine congrArg (fun f => Sum.inl (G.2 3, aN S a, Sum.inr (Sum.inr (Sum.inr (Sum.inl f))))) (funext fun k => ?_)
  show (if a = a ∧ k = j then x else aD S a k) = vf_upd (aD S a) j x k
  simp [vf_upd]
/-! ===== making cells ===== -/
theorem nO_ne {a k : Nat} : ∀ x, x ≠ a → ent G (nO S a k) x = ent G S x := by
  intro x hx
  have h1 : sK (nO S a k) x = sK S x := va_up_ne _ _ hx
  have h2 : ∀ f, fI (nO S a k) f x = fI S f x := fun f => if_neg hx
  have h3 : ∀ f, fJ (nO S a k) f x = fJ S f x := fun f => if_neg hx
  have h4 : ∀ f, fR (nO S a k) f x = fR S f x := fun f => if_neg hx
  unfold ent
  rw [h1]
  simp only [h2, h3, h4]
  rfl
theorem nA_ne {a k n : Nat} : ∀ x, x ≠ a → ent G (nA S a k n) x = ent G S x := by
  intro x hx
  have h1 : sK (nA S a k n) x = sK S x := va_up_ne _ _ hx
  have h2 : aN (nA S a k n) x = aN S x := va_up_ne _ _ hx
  have h3 : aI (nA S a k n) x = aI S x := funext fun i => if_neg hx
  have h4 : aR (nA S a k n) x = aR S x := funext fun i => if_neg hx
  have h5 : aD (nA S a k n) x = aD S x := funext fun i => if_neg hx
  have h6 : aJ (nA S a k n) x = aJ S x := funext fun i => if_neg hx
  unfold ent
  rw [h1, h2, h3, h4, h5, h6]
  rfl
theorem nO_K {a k : Nat} : ∀ z, sK (nO S a k) z ≠ 0 → z = a ∨ sK S z ≠ 0 := by
  intro z hz
  by_cases h : z = a
  · exact Or.inl h
  · exact Or.inr (by rwa [show sK (nO S a k) z = sK S z from va_up_ne _ _ h] at hz)
theorem nA_K {a k n : Nat} : ∀ z, sK (nA S a k n) z ≠ 0 → z = a ∨ sK S z ≠ 0 := by
  intro z hz
  by_cases h : z = a
  · exact Or.inl h
  · exact Or.inr (by rwa [show sK (nA S a k n) z = sK S z from va_up_ne _ _ h] at hz)
/-- the new address is none of the pool's -/
theorem new_fresh {ws : va_W} {x : Nat} {e' : va_E} (hall : ∀ z : Nat, sK S z ≠ 0 → ∃ k : Nat, ws[k]? = some (z, ent G S z)) (hD : va_D (Ab b) (ws ++ [(x, e')])) : sK S x = 0 := by
  rcases Nat.eq_zero_or_pos (sK S x) with h | h
  · exact h
  · obtain ⟨k, hk⟩ := hall x (by omega)
    have hl := (List.getElem?_eq_some_iff.mp hk).1
    have h1 : (ws ++ [(x, e')])[k]? = some (x, ent G S x) := by rw [List.getElem?_append_left hl]; exact hk
    have h2 : (ws ++ [(x, e')])[ws.length]? = some (x, e') := by rw [List.getElem?_append_right (Nat.le_refl _), Nat.sub_self]; rfl
    have := hD.1 _ _ _ _ h1 h2 rfl
    omega
theorem new_zero {ws : va_W} {x : Nat} {e' : va_E} (hD : va_D (Ab b) (ws ++ [(x, e')])) : b ≤ x := hD.2 ws.length (x, e') (by rw [List.getElem?_append_right (Nat.le_refl _), Nat.sub_self]; rfl)
theorem r_new (C : Cx p l s m args meth c cc nL own ret G b) {n ci N index k : Nat} {Cn : String} {T : u_T} {ty : Nat → FieldType} {fs : List Value} (hin : ∀ w ∈ u_ws Cn T N, w ∈ TB) (hty : ∀ k, k < N → parseFieldDescriptor (T k).2.2.1 = some (ty k)) (w1 : .classLink own index Cn ∈ TB) (w2 : .instantiable Cn N ∈ TB) (w3 : .initialized Cn ∈ TB)
    (hc : vwCl[ci]? = some (Cn, T, N)) (hfs : ∀ j, j < N → defaultValue (ty j) = vp_V fs j) (he : ∀ x : Nat, ent G (nO S x k) x = .inr (ci, fs)) (hr : cells + 1 ≤ R.cells ∧ slots + N ≤ R.slots) (d : decode cc pc = .ok (.new index, 3)) (hn : pc + 3 = n)
    (kk : ∀ x : Nat, sK S x = 0 → b ≤ x → J p l e R s m args below meth c nL G b Q n lv (.ref x :: st) (nO S x k) (cells + 1) (slots + N)) : J p l e R s m args below meth c nL G b Q pc lv st S cells slots := by
  subst hn
  intro ls H locs h1 h2 h3
  obtain ⟨ws, hP, hD, hall, hpush⟩ := h2.new
  exact va_new C.1 C.2.1 C.2.2.2.2.1 hin ty hty C.2.2.2.1 (C.w w1) (C.w w2) (C.w w3) C.K hP hD h3 (fun q hq => Nat.le_trans C.fx.2.2.2.2.2.2.2.2 hq) hc hfs hr.1 hr.2 d
    (fun x H1 g1 g2 g3 => kk x (new_fresh hall g2) (new_zero g2) ls H1 locs h1 (hpush _ H1 x _ g1 g2 (he x) nO_ne nO_K) g3)
theorem va_K_id {cA : ClassId} {ty : FieldType} {k : Nat} {cB : ClassId} (hK : va_K G.1 vwCl (tyl G) s) (hk : (tyl G)[k]? = some (cB, ty)) (h : s.vm.findClass ("[" ++ ty.toString) = some cA) (hnr : (tyl G)[k]?.map (fun q => match q.2 with | .object _ => false | _ => true) = some true) : cB = cA := by
  have h2 := (hK.2 k _ hk).2
  rw [hk] at hnr
  cases ty <;> first | exact Option.some.inj (h2.symm.trans h) | (simp at hnr)
theorem r_newa (C : Cx p l s m args meth c cc nL own ret G b) {n N : Nat} {z : Int32} {atype : ArrayType} {ty : FieldType} {k i : Nat} (w1 : .arrayClass ty ∈ TB) (hty : newarray.typeOf atype = ty) (hi : (tyl G)[i]? = some (G.2 i, ty)) (hnr : (tyl G)[i]?.map (fun q => match q.2 with | .object _ => false | _ => true) = some true) {a0 : vp_A} (ha : ∀ cA : ClassId, vp_cell cA a0 = arrV cA N (fun _ => defaultValue ty)) (he : ∀ x : Nat, ent G (nA S x k N) x = .inl (G.2 i, a0)) (hz : z = nI N) (hN : N < 2 ^ 25) (hcb : componentBytes ty ≤ 8) (hr : cells + 1 ≤ R.cells ∧ slots + N ≤ R.slots) (d : decode cc pc = .ok (.newarray atype, 2)) (hn : pc + 2 = n)
    (kk : ∀ x : Nat, sK S x = 0 → b ≤ x → J p l e R s m args below meth c nL G b Q n lv (.ref x :: st) (nA S x k N) (cells + 1) (slots + N)) : J p l e R s m args below meth c nL G b Q pc lv (.int z :: st) S cells slots := by
  subst hn; subst hz; subst hty
  intro ls H locs h1 h2 h3
  obtain ⟨ws, hP, hD, hall, hpush⟩ := h2.new
  have hb : N * componentBytes (newarray.typeOf atype) ≤ 536870912 := Nat.le_trans (Nat.mul_le_mul_left N hcb) (by omega)
  refine va_newaK C.1 C.2.1 (C.w w1) (g := F0 m pc ls (.int (nI N) :: st)) rfl d rfl (nI_pos (by omega)) (nI_clamp (by omega)) hb hr.1 hr.2 (h := H.size) rfl (fun H1 cA g1 g2 g3 g4 g5 => ?_)
  have hcA : G.2 i = cA := va_K_id C.K hi g5 hnr
  have hx : va_at G.1 vwCl (H.size, .inl (G.2 i, a0)) H1 := by
    show H1[H.size]? = some (vp_cell (G.2 i) a0)
    rw [hcA, ha]; exact g1
  have hP1 : va_P G.1 vwCl (ws ++ [(H.size, .inl (G.2 i, a0))]) H1 := va_P.app (hP.kept (fun k q hk => g3 q.1 ((hP k q hk).lt))) (fun k q hk => by
    have h0 : k < 1 := (List.getElem?_eq_some_iff.mp hk).1
    rw [show k = 0 by omega] at hk
    cases hk
    exact hx)
  have hA : Ab b H.size := Nat.le_trans C.fx.2.2.2.2.2.2.2.2 h3.1
  have hD1 : va_D (Ab b) (ws ++ [(H.size, .inl (G.2 i, a0))]) := hD.push hP rfl hA
  exact kk H.size (new_fresh hall hD1) hA ls H1 locs h1 (hpush _ H1 H.size _ hP1 hD1 (he _) nA_ne nA_K) ⟨by rw [g2]; exact Nat.le_succ_of_le h3.1, fun q hq hq2 => by rw [g3 q (Nat.lt_of_lt_of_le hq h3.1)]; exact h3.2.1 q hq hq2, h3.2.2⟩
/-! ===== ends ===== -/
def Qp (G : GG) (b : Nat) {α : Type} (mk : α → Option Value) (post : α → Sw → Prop) : Array Value → State → Outcome → State → Prop := fun _ st o t => (∃ (v : α) (S' : Sw), o = .returned (mk v) ∧ post v S' ∧ Hd G b S' t.heap) ∧ va_F (Ab b) st t
def EXn (k : Nat) : String := if k = 1 then "java/lang/IllegalArgumentException" else "java/lang/IllegalStateException"
def XCp (G : GG) (b : Nat) (S : Sw) (px : Nat → Prop) : String → State → State → Prop := fun E st t => (∃ k, (k = 1 ∨ k = 2) ∧ E = EXn k ∧ px k ∧ Hd G b S t.heap) ∧ va_F (Ab b) st t
abbrev mI : Int32 → Option Value := fun r => some (.int r)
abbrev mJ : Int64 → Option Value := fun r => some (.long r)
abbrev mD : UInt64 → Option Value := fun r => some (.double r)
abbrev mV : Unit → Option Value := fun _ => none
abbrev mA : Nat → Option Value := fun r => some (.ref r)
theorem t_i {ty : FieldType} {mc ms : Nat} {v : Int32} {post : Int32 → Sw → Prop} {XC : String → State → State → Prop} (C : Cx p l s m args meth c cc nL own (some ty) G b) (hn : narrow ty (.int v) = .int v) (d : decode cc pc = .ok (.ireturn, 1)) (hc : cells ≤ mc ∧ slots ≤ ms) (hq : post v S) :
    J p l e R s m args below meth c nL G b (vx_MQ below (Qp G b mI post) XC args s mc ms (Ab b)) pc lv [.int v] S cells slots := fun ls H locs h1 h2 h3 =>
  W.widen hc.1 hc.2 (vx_ret (W.zret C.1 C.2.1 C.2.2.2.2.2.2.2.1 hn (fun t ht hW => ⟨⟨v, S, rfl, hq, by rw [ht]; exact h2⟩, h3.F ht⟩) h3.2.2 d C.2.2.2.2.2.2.1))
theorem t_j {mc ms : Nat} {v : Int64} {post : Int64 → Sw → Prop} {XC : String → State → State → Prop} (C : Cx p l s m args meth c cc nL own (some .long) G b) (d : decode cc pc = .ok (.lreturn, 1)) (hc : cells ≤ mc ∧ slots ≤ ms) (hq : post v S) :
    J p l e R s m args below meth c nL G b (vx_MQ below (Qp G b mJ post) XC args s mc ms (Ab b)) pc lv [.long v] S cells slots := fun ls H locs h1 h2 h3 =>
  W.widen hc.1 hc.2 (vx_ret (W.lret C.1 C.2.1 C.2.2.2.2.2.2.2.1 (fun t ht hW => ⟨⟨v, S, rfl, hq, by rw [ht]; exact h2⟩, h3.F ht⟩) h3.2.2 d C.2.2.2.2.2.2.1))
theorem t_d {mc ms : Nat} {v : UInt64} {post : UInt64 → Sw → Prop} {XC : String → State → State → Prop} (C : Cx p l s m args meth c cc nL own (some .double) G b) (d : decode cc pc = .ok (.dreturn, 1)) (hc : cells ≤ mc ∧ slots ≤ ms) (hq : post v S) :
    J p l e R s m args below meth c nL G b (vx_MQ below (Qp G b mD post) XC args s mc ms (Ab b)) pc lv [.double v] S cells slots := fun ls H locs h1 h2 h3 =>
  W.widen hc.1 hc.2 (vx_ret (W.dret C.1 C.2.1 C.2.2.2.2.2.2.2.1 (fun t ht hW => ⟨⟨v, S, rfl, hq, by rw [ht]; exact h2⟩, h3.F ht⟩) h3.2.2 d C.2.2.2.2.2.2.1))
theorem t_v {mc ms : Nat} {post : Unit → Sw → Prop} {XC : String → State → State → Prop} (C : Cx p l s m args meth c cc nL own none G b) (d : decode cc pc = .ok (.return_, 1)) (hc : cells ≤ mc ∧ slots ≤ ms) (hq : post () S) :
    J p l e R s m args below meth c nL G b (vx_MQ below (Qp G b mV post) XC args s mc ms (Ab b)) pc lv [] S cells slots := fun ls H locs h1 h2 h3 =>
  W.widen hc.1 hc.2 (vx_ret (W.vret C.1 C.2.1 C.2.2.2.2.2.2.2.1 (fun t ht hW => ⟨⟨(), S, rfl, hq, by rw [ht]; exact h2⟩, h3.F ht⟩) h3.2.2 d C.2.2.2.2.2.2.1))
theorem t_a {mc ms : Nat} {v : Nat} {nm : String} {post : Nat → Sw → Prop} {XC : String → State → State → Prop} (C : Cx p l s m args meth c cc nL own (some (.object nm)) G b) (d : decode cc pc = .ok (.areturn, 1)) (hc : cells ≤ mc ∧ slots ≤ ms) (hq : post v S) :
    J p l e R s m args below meth c nL G b (vx_MQ below (Qp G b mA post) XC args s mc ms (Ab b)) pc lv [.ref v] S cells slots := fun ls H locs h1 h2 h3 =>
  W.widen hc.1 hc.2 (vx_ret (W.aret C.1 C.2.1 C.2.2.2.2.2.2.2.1 (Or.inl ⟨nm, rfl⟩) (Or.inr ⟨v, rfl⟩) (fun t ht hW => ⟨⟨v, S, rfl, hq, by rw [ht]; exact h2⟩, h3.F ht⟩) h3.2.2 d C.2.2.2.2.2.2.1))
/-! ===== contracts ===== -/
def Ct (l : Launch) (G : GG) (b : Nat) (y : MethodName) (cc : ByteArray) (nL : Nat) (ret : Option FieldType) (rm : Room) {α : Type} (mk : α → Option Value) (av : List Value) (S : Sw) (post : α → Sw → Prop) : Prop :=
  Met l y (.code y cc nL ret :: TB) rm (va_Pc av (HU G b S)) (Qp G b mk post) rm.cells rm.slots (Ab b)
def Cth (l : Launch) (G : GG) (b : Nat) (y : MethodName) (cc : ByteArray) (nL : Nat) (ret : Option FieldType) (rm : Room) {α : Type} (mk : α → Option Value) (av : List Value) (S : Sw) (post : α → Sw → Prop) (px : Nat → Prop) : Prop :=
  vx_Met l y (.code y cc nL ret :: TB) rm (va_Pc av (HU G b S)) (Qp G b mk post) (XCp G b S px) rm.cells rm.slots (Ab b)
theorem Cth.of {y : MethodName} {rm : Room} {α : Type} {mk : α → Option Value} {av : List Value} {post : α → Sw → Prop} {px : Nat → Prop} (hy : plainName y.cls = true) (hlen : (lg_sl av).length ≤ nL) (hst : l.stackTraces = false)
    (body : ∀ (p : Program) (e : Env) (s : State) (m : MethodId) (args : Array Value) (below : List Frame) (meth : Method) (c : Code), Cx p l s m args meth c cc nL y.cls ret G b → meth.name = y.name → (∀ x ∈ c.exceptionTable.toList, False) →
      J p l e rm s m args below meth c nL G b (vx_MQ below (Qp G b mk post) (XCp G b S px) args s rm.cells rm.slots (Ab b)) 0 (lv_args 0 av) [] S 0 0) : Cth l G b y cc nL ret rm mk av S post px := by
  refine vx_ofW (cc := cc) (maxL := nL) (ret := ret) hy rfl ?_
  intro p e s m args below meth c s₁ B hml hno hv
  obtain ⟨rfl, hF, hH⟩ := hv
  have hts := atoms_spec (ws := .code y cc nL ret :: TB) B.pre
  have C : Cx p l s m av.toArray meth c cc nL y.cls ret G b := ⟨B.exec, B.bytes, hml, findClass_of_methodNamed B.named, fun w hw => hts w (List.mem_cons_of_mem _ hw), hF, B.notSynchronized, B.returns, hst⟩
  have hl := lv_entry av (n := nL) hlen
  rw [lg_entry_eq]
  exact body p e s m av.toArray below meth c C (name_of_methodNamed B.named B.method).1 hno _ s.heap [] hl hH va_S.rf
theorem Ct.of {y : MethodName} {rm : Room} {α : Type} {mk : α → Option Value} {av : List Value} {post : α → Sw → Prop} (hy : plainName y.cls = true) (hlen : (lg_sl av).length ≤ nL) (hst : l.stackTraces = false)
    (body : ∀ (p : Program) (e : Env) (s : State) (m : MethodId) (args : Array Value) (below : List Frame) (meth : Method) (c : Code), Cx p l s m args meth c cc nL y.cls ret G b → meth.name = y.name →
      J p l e rm s m args below meth c nL G b (vx_MQ below (Qp G b mk post) (XCp G b S (fun _ => False)) args s rm.cells rm.slots (Ab b)) 0 (lv_args 0 av) [] S 0 0) : Ct l G b y cc nL ret rm mk av S post := by
  have h : Cth l G b y cc nL ret rm mk av S post (fun _ => False) := Cth.of hy hlen hst (fun p e s m args below meth c C hn _ => body p e s m args below meth c C hn)
  intro p e ha hc hk s m args below hf happ hP hK
  obtain ⟨n, o, q1, q2, q3, q4⟩ := h p e ha hc hk s m args below hf happ hP hK
  rcases q4 with q4 | ⟨q, -, E, ce, L, ⟨⟨k, -, -, hF, -⟩, -⟩, -⟩
  · exact ⟨n, o, q1, q2, q3, q4⟩
  · exact hF.elim
/-- a contract asks less, or says less -/
theorem Ct.post {y : MethodName} {rm : Room} {α : Type} {mk : α → Option Value} {av : List Value} {post post' : α → Sw → Prop} (h : Ct l G b y cc nL ret rm mk av S post) (hp : ∀ v S', post v S' → post' v S') : Ct l G b y cc nL ret rm mk av S post' := by
  intro p e ha hc hk s m args below hf happ hP hK
  obtain ⟨n, o, q1, q2, q3, ⟨⟨v, S', e1, e2, e3⟩, e4⟩, q5⟩ := h p e ha hc hk s m args below hf happ hP hK
  exact ⟨n, o, q1, q2, q3, ⟨⟨v, S', e1, hp v S' e2, e3⟩, e4⟩, q5⟩
/-! ===== calls ===== -/
theorem J.run {n mc ms : Nat} {rest st0 : List Value} {α : Type} {mk : α → Option Value} {post : α → Sw → Prop} {av : Array Value} (hr : ∀ (ls : Array Slot) (H : Heap) (locs : List Loc), lv_has ls nL lv → Hd G b S H → va_S (Ab b) s.heap H locs → va_Run p l e R s m args below meth c H locs cells slots mc ms (F0 m pc ls st0) rest (Qp G b mk post av) (Ab b))
    (hn : pc + 3 = n) (kk : ∀ (v : α) (S' : Sw), post v S' → J p l e R s m args below meth c nL G b Q n lv ((mk v).toList ++ rest) S' (cells + mc) (slots + ms)) : J p l e R s m args below meth c nL G b Q pc lv st0 S cells slots := by
  subst hn
  intro ls H locs h1 h2 h3 T hT X
  obtain ⟨v, st₀, t, T', L, e0, X', hL, e1, e2, ⟨⟨r, S', hv, hp, hH⟩, hF⟩, go⟩ := hr ls H locs h1 h2 h3 T hT X
  cases hv
  obtain ⟨k1, k2, k3⟩ := vx_keep e0 e1 h3 (fun _ _ h => h) (fun _ h => h) hL hF
  obtain ⟨t2, a1, b1⟩ := kk r S' hp ls T'.heap (locs ++ L) h1 (by rw [e1]; exact hH) k3 T' rfl X'
  exact ⟨t2, go t2 a1, b1⟩
theorem Cx.fix (C : Cx p l s m args meth c cc nL own ret G b) : CallFix p m c cc nL s args TB own := ⟨C.1, C.2.1, C.2.2.1, C.2.2.2.1, C.2.2.2.2.1⟩
theorem Cx.preS (C : Cx p l s m args meth c cc nL own ret G b) {H : Heap} {locs : List Loc} {av : List Value} (h2 : Hd G b S H) (h3 : va_S (Ab b) s.heap H locs) : PreS s H (va_Pc av (HU G b S)) av :=
  ⟨HU.blind, fun U hU hW => ⟨rfl, Fx.move hW (by rw [hU]; exact h3.1) (by rw [hU]; exact h3.2.1) C.fx, by rw [hU]; exact h2⟩⟩
theorem Cx.preV (C : Cx p l s m args meth c cc nL own ret G b) {H : Heap} {locs : List Loc} {a ci : Nat} {av : List Value} {q : vw_C} {fs : List Value} (h2 : Hd G b S H) (h3 : va_S (Ab b) s.heap H locs) (hK : sK S a ≠ 0) (he : ent G S a = .inr (ci, fs)) (hc : vwCl[ci]? = some q) : PreV s H q.1 a (va_Pc (.ref a :: av) (HU G b S)) av := by
  obtain ⟨ws, k, hP, hD, hq, -, -⟩ := h2.at hK
  rw [he] at hq
  exact ⟨HU.blind, va_recv C.K hP hc hq, (C.preS h2 h3).2⟩
def dOk (y : MethodName) (k : Nat) : Prop := y.cls ≠ "java/lang/invoke/MethodHandle" ∧ y.cls ≠ "java/lang/invoke/VarHandle" ∧ (parseMethodDescriptor y.desc).map (fun d => d.parameters.length) = some k
def cat (st : List Value) : Nat := (st.map fun v => v.category).sum
theorem r_callS (C : Cx p l s m args meth c cc nL own ret G b) {n index nL' k : Nat} {y : MethodName} {cc' : ByteArray} {ret' : Option FieldType} {rm : Room} {av rest : List Value} {α : Type} {mk : α → Option Value} {post : α → Sw → Prop} (hM : Ct l G b y cc' nL' ret' rm mk av S post)
    (w : .methodLink own index y ∈ TB ∧ .static y ∈ TB ∧ .initialized y.cls ∈ TB ∧ .code y cc' nL' ret' ∈ TB) (hd : dOk y k) (hR : rm.frames + 1 ≤ R.frames ∧ 8 + (nL' + 11) + rm.locals ≤ R.locals) (hf : cells + rm.cells ≤ R.cells ∧ slots + rm.slots ≤ R.slots) (hk : av.length = k) (hcat : cat rest ≤ 8) (hs : av.reverse ++ rest = st) (d : decode cc pc = .ok (.invokestatic index, 3)) (hn : pc + 3 = n)
    (kk : ∀ (v : α) (S' : Sw), post v S' → J p l e R s m args below meth c nL G b Q n lv ((mk v).toList ++ rest) S' (cells + rm.cells) (slots + rm.slots)) : J p l e R s m args below meth c nL G b Q pc lv st S cells slots := by
  subst hs
  refine J.run (av := av.toArray) (fun ls H locs h1 h2 h3 => ?_) hn kk
  exact va_runS C.fix hM (va_cwS k C.2.2.2.2.1 (tb_inT (all_c w.1 (all_c w.2.1 (all_c w.2.2.1 (all_c w.2.2.2 all_tb))))) rfl rfl rfl hd hR) (C.preS h2 h3) rfl hk h1.1 rfl (lv_room hcat) d hf
theorem r_callSN (C : Cx p l s m args meth c cc nL own ret G b) {n index nL' k : Nat} {host : String} {y : MethodName} {cc' : ByteArray} {ret' : Option FieldType} {rm : Room} {av rest : List Value} {α : Type} {mk : α → Option Value} {post : α → Sw → Prop} (hM : Ct l G b y cc' nL' ret' rm mk av S post)
    (w : .methodLinkNest own index y host ∈ BW ∧ .static y ∈ TB ∧ .initialized y.cls ∈ TB ∧ .code y cc' nL' ret' ∈ TB) (hd : dOk y k) (hR : rm.frames + 1 ≤ R.frames ∧ 8 + (nL' + 11) + rm.locals ≤ R.locals) (hf : cells + rm.cells ≤ R.cells ∧ slots + rm.slots ≤ R.slots) (hk : av.length = k) (hcat : cat rest ≤ 8) (hs : av.reverse ++ rest = st) (d : decode cc pc = .ok (.invokestatic index, 3)) (hn : pc + 3 = n)
    (kk : ∀ (v : α) (S' : Sw), post v S' → J p l e R s m args below meth c nL G b Q n lv ((mk v).toList ++ rest) S' (cells + rm.cells) (slots + rm.slots)) : J p l e R s m args below meth c nL G b Q pc lv st S cells slots := by
  subst hs
  refine J.run (av := av.toArray) (fun ls H locs h1 h2 h3 => ?_) hn kk
  exact va_runSN C.fix hM ⟨va_cnB k C.2.2.2.2.1 (tb_inT (all_c w.2.2.2 all_tb)) rfl rfl rfl (C.fx.2.1 _ w.1) (C.w w.2.2.1) hd hR, C.w w.2.1, trivial⟩ (C.preS h2 h3) rfl hk h1.1 rfl (lv_room hcat) d hf
theorem r_callV (C : Cx p l s m args meth c cc nL own ret G b) {n index nL' k a ci N : Nat} {Cn : String} {T : u_T} {fs : List Value} {y : MethodName} {cc' : ByteArray} {ret' : Option FieldType} {rm : Room} {av rest : List Value} {α : Type} {mk : α → Option Value} {post : α → Sw → Prop} (hM : Ct l G b y cc' nL' ret' rm mk (.ref a :: av) S post)
    (hK : sK S a ≠ 0) (he : ent G S a = .inr (ci, fs)) (hc : vwCl[ci]? = some (Cn, T, N)) (hC : y.cls = Cn)
    (w : .methodLink own index y ∈ TB ∧ .instanceMethod y ∈ TB ∧ .selects Cn y y ∈ TB ∧ .initialized Cn ∈ TB ∧ .code y cc' nL' ret' ∈ TB) (hd : dOk y k) (hR : rm.frames + 1 ≤ R.frames ∧ 8 + (nL' + 11) + rm.locals ≤ R.locals) (hf : cells + rm.cells ≤ R.cells ∧ slots + rm.slots ≤ R.slots) (hk : av.length = k) (hcat : cat rest ≤ 8) (hs : av.reverse ++ .ref a :: rest = st) (d : decode cc pc = .ok (.invokevirtual index, 3)) (hn : pc + 3 = n)
    (kk : ∀ (v : α) (S' : Sw), post v S' → J p l e R s m args below meth c nL G b Q n lv ((mk v).toList ++ rest) S' (cells + rm.cells) (slots + rm.slots)) : J p l e R s m args below meth c nL G b Q pc lv st S cells slots := by
  subst hs
  refine J.run (av := (Value.ref a :: av).toArray) (fun ls H locs h1 h2 h3 => ?_) hn kk
  exact va_runV C.fix hM (cwV k C.2.2.2.2.1 (tb_inT (all_c w.1 (all_c w.2.1 (all_c w.2.2.1 (all_c w.2.2.2.1 (all_c w.2.2.2.2 all_tb)))))) rfl rfl rfl ⟨hC, hd⟩ hR) (C.preV h2 h3 hK he hc) rfl hk h1.1 rfl (lv_room hcat) d hf
theorem r_callU (C : Cx p l s m args meth c cc nL own ret G b) {n index nL' k a ci N : Nat} {Cn owner : String} {T : u_T} {fs : List Value} {x y : MethodName} {cc' : ByteArray} {ret' : Option FieldType} {rm : Room} {av rest : List Value} {α : Type} {mk : α → Option Value} {post : α → Sw → Prop} (hM : Ct l G b y cc' nL' ret' rm mk (.ref a :: av) S post)
    (hK : sK S a ≠ 0) (he : ent G S a = .inr (ci, fs)) (hc : vwCl[ci]? = some (Cn, T, N))
    (w : .methodLink own index x ∈ TB ∧ .sameMethod x.cls owner x.name x.desc ∈ TB ∧ .selects Cn x y ∈ TB ∧ .instanceMethod y ∈ TB ∧ .initialized y.cls ∈ TB ∧ .code y cc' nL' ret' ∈ TB ∧ .declares ⟨owner, x.name, x.desc⟩ ∈ BW) (hd : owner ≠ "java/lang/invoke/MethodHandle" ∧ owner ≠ "java/lang/invoke/VarHandle" ∧ (parseMethodDescriptor x.desc).map (fun d => d.parameters.length) = some k) (hR : rm.frames + 1 ≤ R.frames ∧ 8 + (nL' + 11) + rm.locals ≤ R.locals) (hf : cells + rm.cells ≤ R.cells ∧ slots + rm.slots ≤ R.slots) (hk : av.length = k) (hcat : cat rest ≤ 8) (hs : av.reverse ++ .ref a :: rest = st) (d : decode cc pc = .ok (.invokevirtual index, 3)) (hn : pc + 3 = n)
    (kk : ∀ (v : α) (S' : Sw), post v S' → J p l e R s m args below meth c nL G b Q n lv ((mk v).toList ++ rest) S' (cells + rm.cells) (slots + rm.slots)) : J p l e R s m args below meth c nL G b Q pc lv st S cells slots := by
  subst hs
  refine J.run (av := (Value.ref a :: av).toArray) (fun ls H locs h1 h2 h3 => ?_) hn kk
  exact va_runU C.fix hM (va_cwA k C.2.2.2.2.1 (tb_inT (all_c w.1 (all_c w.2.1 (all_c w.2.2.1 (all_c w.2.2.2.1 (all_c w.2.2.2.2.1 (all_c w.2.2.2.2.2.1 all_tb))))))) rfl rfl rfl (C.fx.2.1 _ w.2.2.2.2.2.2) hd hR) (C.preV h2 h3 hK he hc) rfl hk h1.1 rfl (lv_room hcat) d hf
theorem r_callI (C : Cx p l s m args meth c cc nL own ret G b) {n index nL' k a : Nat} {y : MethodName} {cc' : ByteArray} {rm : Room} {av rest : List Value} {α : Type} {mk : α → Option Value} {post : α → Sw → Prop} (hM : Ct l G b y cc' nL' none rm mk (.ref a :: av) S post)
    (w : .methodLink own index y ∈ TB ∧ .instanceMethod y ∈ TB ∧ .initialized y.cls ∈ TB ∧ .code y cc' nL' none ∈ TB) (hi : y.name = "<init>") (hd : dOk y k) (hR : rm.frames + 1 ≤ R.frames ∧ 8 + (nL' + 11) + rm.locals ≤ R.locals) (hf : cells + rm.cells ≤ R.cells ∧ slots + rm.slots ≤ R.slots) (hk : av.length = k) (hcat : cat rest ≤ 8) (hs : av.reverse ++ .ref a :: rest = st) (d : decode cc pc = .ok (.invokespecial index, 3)) (hn : pc + 3 = n)
    (kk : ∀ (v : α) (S' : Sw), post v S' → J p l e R s m args below meth c nL G b Q n lv ((mk v).toList ++ rest) S' (cells + rm.cells) (slots + rm.slots)) : J p l e R s m args below meth c nL G b Q pc lv st S cells slots := by
  subst hs
  refine J.run (av := (Value.ref a :: av).toArray) (fun ls H locs h1 h2 h3 => ?_) hn kk
  exact va_runI C.fix hM (cwI k C.2.2.2.2.1 (tb_inT (all_c w.2.2.2 all_tb)) rfl rfl rfl (C.w w.2.2.1) (C.w w.1) (C.w w.2.1) hi hd hR) (C.preS h2 h3) rfl hk h1.1 rfl (lv_room hcat) d hf
theorem r_callIN (C : Cx p l s m args meth c cc nL own ret G b) {n index nL' k a : Nat} {host : String} {y : MethodName} {cc' : ByteArray} {rm : Room} {av rest : List Value} {α : Type} {mk : α → Option Value} {post : α → Sw → Prop} (hM : Ct l G b y cc' nL' none rm mk (.ref a :: av) S post)
    (w : .methodLinkNest own index y host ∈ BW ∧ .instanceMethod y ∈ TB ∧ .initialized y.cls ∈ TB ∧ .code y cc' nL' none ∈ TB) (hi : y.name = "<init>") (hd : dOk y k) (hR : rm.frames + 1 ≤ R.frames ∧ 8 + (nL' + 11) + rm.locals ≤ R.locals) (hf : cells + rm.cells ≤ R.cells ∧ slots + rm.slots ≤ R.slots) (hk : av.length = k) (hcat : cat rest ≤ 8) (hs : av.reverse ++ .ref a :: rest = st) (d : decode cc pc = .ok (.invokespecial index, 3)) (hn : pc + 3 = n)
    (kk : ∀ (v : α) (S' : Sw), post v S' → J p l e R s m args below meth c nL G b Q n lv ((mk v).toList ++ rest) S' (cells + rm.cells) (slots + rm.slots)) : J p l e R s m args below meth c nL G b Q pc lv st S cells slots := by
  subst hs
  refine J.run (av := (Value.ref a :: av).toArray) (fun ls H locs h1 h2 h3 => ?_) hn kk
  exact va_runIN C.fix hM ⟨va_cnB k C.2.2.2.2.1 (tb_inT (all_c w.2.2.2 all_tb)) rfl rfl rfl (C.fx.2.1 _ w.1) (C.w w.2.2.1) hd hR, hi, C.w w.2.1⟩ (C.preS h2 h3) rfl hk h1.1 rfl (lv_room hcat) d hf
theorem r_objInit (C : Cx p l s m args meth c cc nL own ret G b) {n index a : Nat} (w : .methodLink own index Lib.objectInit ∈ TB ∧ .instanceMethod Lib.objectInit ∈ TB ∧ .code Lib.objectInit ⟨#[0xb1]⟩ 1 none ∈ TB) (hR : 1 ≤ R.frames ∧ cat st + 12 ≤ R.locals) (d : decode cc pc = .ok (.invokespecial index, 3)) (hn : pc + 3 = n)
    (kk : J p l e R s m args below meth c nL G b Q n lv st S cells slots) : J p l e R s m args below meth c nL G b Q pc lv (.ref a :: st) S cells slots := by
  subst hn
  intro ls H locs h1 h2 h3
  exact W.objInit C.1 C.2.1 C.2.2.2.1 (C.w w.1) (C.w w.2.1) (C.w w.2.2) rfl (h1.1.trans C.2.2.1.symm) rfl d hR.1 (by show 2 * 0 + _ + 12 ≤ _; simpa [cat] using hR.2) (kk ls H locs h1 h2 h3)
end JJ
end
section
theorem inb_1 : ∀ w ∈ u_ws RX1 TX1 3, w ∈ TB := fun w h => by
  have h1 : (u_ws RX1 TX1 3).all (fun w => decide (w ∈ lw_tbl) && goodWord w) = true := by decide +kernel
  have h2 := List.all_eq_true.mp h1 w h
  simp only [Bool.and_eq_true, decide_eq_true_eq] at h2
  exact mem_tb h2.1 h2.2
theorem inb_2 : ∀ w ∈ u_ws RX2 TX2 3, w ∈ TB := fun w h => by
  have h1 : (u_ws RX2 TX2 3).all (fun w => decide (w ∈ lw_tbl) && goodWord w) = true := by decide +kernel
  have h2 := List.all_eq_true.mp h1 w h
  simp only [Bool.and_eq_true, decide_eq_true_eq] at h2
  exact mem_tb h2.1 h2.2
theorem inb_3 : ∀ w ∈ u_ws RX3 TX3 4, w ∈ TB := fun w h => by
  have h1 : (u_ws RX3 TX3 4).all (fun w => decide (w ∈ lw_tbl) && goodWord w) = true := by decide +kernel
  have h2 := List.all_eq_true.mp h1 w h
  simp only [Bool.and_eq_true, decide_eq_true_eq] at h2
  exact mem_tb h2.1 h2.2
theorem inb_4 : ∀ w ∈ u_ws RX4 TX4 10, w ∈ TB := fun w h => by
  have h1 : (u_ws RX4 TX4 10).all (fun w => decide (w ∈ lw_tbl) && goodWord w) = true := by decide +kernel
  have h2 := List.all_eq_true.mp h1 w h
  simp only [Bool.and_eq_true, decide_eq_true_eq] at h2
  exact mem_tb h2.1 h2.2
theorem inb_5 : ∀ w ∈ u_ws RX5 TX5 15, w ∈ TB := fun w h => by
  have h1 : (u_ws RX5 TX5 15).all (fun w => decide (w ∈ lw_tbl) && goodWord w) = true := by decide +kernel
  have h2 := List.all_eq_true.mp h1 w h
  simp only [Bool.and_eq_true, decide_eq_true_eq] at h2
  exact mem_tb h2.1 h2.2
theorem inb_6 : ∀ w ∈ u_ws RX6 TX6 1, w ∈ TB := fun w h => by
  have h1 : (u_ws RX6 TX6 1).all (fun w => decide (w ∈ lw_tbl) && goodWord w) = true := by decide +kernel
  have h2 := List.all_eq_true.mp h1 w h
  simp only [Bool.and_eq_true, decide_eq_true_eq] at h2
  exact mem_tb h2.1 h2.2
theorem inb_7 : ∀ w ∈ u_ws RX7 TX7 11, w ∈ TB := fun w h => by
  have h1 : (u_ws RX7 TX7 11).all (fun w => decide (w ∈ lw_tbl) && goodWord w) = true := by decide +kernel
  have h2 := List.all_eq_true.mp h1 w h
  simp only [Bool.and_eq_true, decide_eq_true_eq] at h2
  exact mem_tb h2.1 h2.2
theorem inb_8 : ∀ w ∈ u_ws RX8 TX8 40, w ∈ TB := fun w h => by
  have h1 : (u_ws RX8 TX8 40).all (fun w => decide (w ∈ lw_tbl) && goodWord w) = true := by decide +kernel
  have h2 := List.all_eq_true.mp h1 w h
  simp only [Bool.and_eq_true, decide_eq_true_eq] at h2
  exact mem_tb h2.1 h2.2
section FLD
variable {p : Program} {l : Launch} {e : Env} {R : Room} {s : State} {m : MethodId} {args : Array Value} {below : List Frame} {meth : Method} {c : Code} {Q : State → Prop} {cc : ByteArray} {nL : Nat} {ret : Option FieldType} {G : GG} {b : Nat} {pc : Nat} {lv : List (Nat × Value)} {st : List Value} {S : Sw} {cells slots : Nat}
theorem gX7_10 (C : Cx p l s m args meth c cc nL RX7 ret G b) {n a : Nat} {x : Nat} (hK : sK S a = 7) (hx : fR S 700 a = some x) (d : decode cc pc = .ok (.getfield 10, 3)) (hn : pc + 3 = n) (kk : J p l e R s m args below meth c nL G b Q n lv (.ref x :: st) S cells slots) : J p l e R s m args below meth c nL G b Q pc lv (.ref a :: st) S cells slots := 
  r_get (T := TX7) (Cn := RX7) C (by rw [hK]; decide) (ent_7 hK) rfl 0 (by decide) inb_7 (show (Cond.fieldLink RX7 10 RX7 "taps" "LSoundKernel$Taps;").before args s = true from (C.w (mem_tb (mem_tbl 72 (by decide +kernel)) (by decide +kernel)))) (fun _ h => h) rfl d hn (by rw [hx]; exact kk)
theorem gX7_19 (C : Cx p l s m args meth c cc nL RX7 ret G b) {n a : Nat} {x : Nat} (hK : sK S a = 7) (hx : fR S 701 a = some x) (d : decode cc pc = .ok (.getfield 19, 3)) (hn : pc + 3 = n) (kk : J p l e R s m args below meth c nL G b Q n lv (.ref x :: st) S cells slots) : J p l e R s m args below meth c nL G b Q pc lv (.ref a :: st) S cells slots := 
  r_get (T := TX7) (Cn := RX7) C (by rw [hK]; decide) (ent_7 hK) rfl 1 (by decide) inb_7 (show (Cond.fieldLink RX7 19 RX7 "limiter" "LSoundKernel$Limiter;").before args s = true from (C.w (mem_tb (mem_tbl 73 (by decide +kernel)) (by decide +kernel)))) (fun _ h => h) rfl d hn (by rw [hx]; exact kk)
theorem gX7_25 (C : Cx p l s m args meth c cc nL RX7 ret G b) {n a : Nat} {x : Nat} (hK : sK S a = 7) (hx : fR S 702 a = some x) (d : decode cc pc = .ok (.getfield 25, 3)) (hn : pc + 3 = n) (kk : J p l e R s m args below meth c nL G b Q n lv (.ref x :: st) S cells slots) : J p l e R s m args below meth c nL G b Q pc lv (.ref a :: st) S cells slots := 
  r_get (T := TX7) (Cn := RX7) C (by rw [hK]; decide) (ent_7 hK) rfl 2 (by decide) inb_7 (show (Cond.fieldLink RX7 25 RX7 "clients" "[LSoundKernel$Client;").before args s = true from (C.w (mem_tb (mem_tbl 74 (by decide +kernel)) (by decide +kernel)))) (fun _ h => h) rfl d hn (by rw [hx]; exact kk)
theorem gX7_31 (C : Cx p l s m args meth c cc nL RX7 ret G b) {n a : Nat} {x : Nat} (hK : sK S a = 7) (hx : fR S 703 a = some x) (d : decode cc pc = .ok (.getfield 31, 3)) (hn : pc + 3 = n) (kk : J p l e R s m args below meth c nL G b Q n lv (.ref x :: st) S cells slots) : J p l e R s m args below meth c nL G b Q pc lv (.ref a :: st) S cells slots := 
  r_get (T := TX7) (Cn := RX7) C (by rw [hK]; decide) (ent_7 hK) rfl 3 (by decide) inb_7 (show (Cond.fieldLink RX7 31 RX7 "ready" "[[I").before args s = true from (C.w (mem_tb (mem_tbl 75 (by decide +kernel)) (by decide +kernel)))) (fun _ h => h) rfl d hn (by rw [hx]; exact kk)
theorem gX7_34 (C : Cx p l s m args meth c cc nL RX7 ret G b) {n a : Nat} (hK : sK S a = 7) (d : decode cc pc = .ok (.getfield 34, 3)) (hn : pc + 3 = n) (kk : J p l e R s m args below meth c nL G b Q n lv (.int (fI S 704 a) :: st) S cells slots) : J p l e R s m args below meth c nL G b Q pc lv (.ref a :: st) S cells slots := 
  r_get (T := TX7) (Cn := RX7) C (by rw [hK]; decide) (ent_7 hK) rfl 4 (by decide) inb_7 (show (Cond.fieldLink RX7 34 RX7 "oldestReady" "I").before args s = true from (C.w (mem_tb (mem_tbl 76 (by decide +kernel)) (by decide +kernel)))) (fun _ h => h) rfl d hn kk
theorem gX7_38 (C : Cx p l s m args meth c cc nL RX7 ret G b) {n a : Nat} (hK : sK S a = 7) (d : decode cc pc = .ok (.getfield 38, 3)) (hn : pc + 3 = n) (kk : J p l e R s m args below meth c nL G b Q n lv (.int (fI S 705 a) :: st) S cells slots) : J p l e R s m args below meth c nL G b Q pc lv (.ref a :: st) S cells slots := 
  r_get (T := TX7) (Cn := RX7) C (by rw [hK]; decide) (ent_7 hK) rfl 5 (by decide) inb_7 (show (Cond.fieldLink RX7 38 RX7 "readyPeriods" "I").before args s = true from (C.w (mem_tb (mem_tbl 77 (by decide +kernel)) (by decide +kernel)))) (fun _ h => h) rfl d hn kk
theorem gX7_41 (C : Cx p l s m args meth c cc nL RX7 ret G b) {n a : Nat} {x : Nat} (hK : sK S a = 7) (hx : fR S 706 a = some x) (d : decode cc pc = .ok (.getfield 41, 3)) (hn : pc + 3 = n) (kk : J p l e R s m args below meth c nL G b Q n lv (.ref x :: st) S cells slots) : J p l e R s m args below meth c nL G b Q pc lv (.ref a :: st) S cells slots := 
  r_get (T := TX7) (Cn := RX7) C (by rw [hK]; decide) (ent_7 hK) rfl 6 (by decide) inb_7 (show (Cond.fieldLink RX7 41 RX7 "past" "[[I").before args s = true from (C.w (mem_tb (mem_tbl 78 (by decide +kernel)) (by decide +kernel)))) (fun _ h => h) rfl d hn (by rw [hx]; exact kk)
theorem gX7_44 (C : Cx p l s m args meth c cc nL RX7 ret G b) {n a : Nat} (hK : sK S a = 7) (d : decode cc pc = .ok (.getfield 44, 3)) (hn : pc + 3 = n) (kk : J p l e R s m args below meth c nL G b Q n lv (.int (fI S 707 a) :: st) S cells slots) : J p l e R s m args below meth c nL G b Q pc lv (.ref a :: st) S cells slots := 
  r_get (T := TX7) (Cn := RX7) C (by rw [hK]; decide) (ent_7 hK) rfl 7 (by decide) inb_7 (show (Cond.fieldLink RX7 44 RX7 "newestPast" "I").before args s = true from (C.w (mem_tb (mem_tbl 79 (by decide +kernel)) (by decide +kernel)))) (fun _ h => h) rfl d hn kk
theorem gX7_47 (C : Cx p l s m args meth c cc nL RX7 ret G b) {n a : Nat} {x : Nat} (hK : sK S a = 7) (hx : fR S 708 a = some x) (d : decode cc pc = .ok (.getfield 47, 3)) (hn : pc + 3 = n) (kk : J p l e R s m args below meth c nL G b Q n lv (.ref x :: st) S cells slots) : J p l e R s m args below meth c nL G b Q pc lv (.ref a :: st) S cells slots := 
  r_get (T := TX7) (Cn := RX7) C (by rw [hK]; decide) (ent_7 hK) rfl 8 (by decide) inb_7 (show (Cond.fieldLink RX7 47 RX7 "incoming" "[I").before args s = true from (C.w (mem_tb (mem_tbl 80 (by decide +kernel)) (by decide +kernel)))) (fun _ h => h) rfl d hn (by rw [hx]; exact kk)
theorem gX7_51 (C : Cx p l s m args meth c cc nL RX7 ret G b) {n a : Nat} {x : Nat} (hK : sK S a = 7) (hx : fR S 709 a = some x) (d : decode cc pc = .ok (.getfield 51, 3)) (hn : pc + 3 = n) (kk : J p l e R s m args below meth c nL G b Q n lv (.ref x :: st) S cells slots) : J p l e R s m args below meth c nL G b Q pc lv (.ref a :: st) S cells slots := 
  r_get (T := TX7) (Cn := RX7) C (by rw [hK]; decide) (ent_7 hK) rfl 9 (by decide) inb_7 (show (Cond.fieldLink RX7 51 RX7 "given" "[I").before args s = true from (C.w (mem_tb (mem_tbl 81 (by decide +kernel)) (by decide +kernel)))) (fun _ h => h) rfl d hn (by rw [hx]; exact kk)
theorem gX7_54 (C : Cx p l s m args meth c cc nL RX7 ret G b) {n a : Nat} {x : Nat} (hK : sK S a = 7) (hx : fR S 710 a = some x) (d : decode cc pc = .ok (.getfield 54, 3)) (hn : pc + 3 = n) (kk : J p l e R s m args below meth c nL G b Q n lv (.ref x :: st) S cells slots) : J p l e R s m args below meth c nL G b Q pc lv (.ref a :: st) S cells slots := 
  r_get (T := TX7) (Cn := RX7) C (by rw [hK]; decide) (ent_7 hK) rfl 10 (by decide) inb_7 (show (Cond.fieldLink RX7 54 RX7 "sums" "[I").before args s = true from (C.w (mem_tb (mem_tbl 82 (by decide +kernel)) (by decide +kernel)))) (fun _ h => h) rfl d hn (by rw [hx]; exact kk)
theorem gX7_100_4 (C : Cx p l s m args meth c cc nL RX7 ret G b) {n a : Nat} (hK : sK S a = 4) (d : decode cc pc = .ok (.getfield 100, 3)) (hn : pc + 3 = n) (kk : J p l e R s m args below meth c nL G b Q n lv (.int (fI S 2 a) :: st) S cells slots) : J p l e R s m args below meth c nL G b Q pc lv (.ref a :: st) S cells slots := 
  r_get (T := TX4) (Cn := RX4) C (by rw [hK]; decide) (ent_4 hK) rfl 2 (by decide) inb_4 (show (Cond.fieldLink RX7 100 RX0 "condition" "I").before args s = true from (C.w (mem_tb (mem_tbl 440 (by decide +kernel)) (by decide +kernel)))) (fun _ h => h) rfl d hn kk
theorem gX7_100_5 (C : Cx p l s m args meth c cc nL RX7 ret G b) {n a : Nat} (hK : sK S a = 5) (d : decode cc pc = .ok (.getfield 100, 3)) (hn : pc + 3 = n) (kk : J p l e R s m args below meth c nL G b Q n lv (.int (fI S 2 a) :: st) S cells slots) : J p l e R s m args below meth c nL G b Q pc lv (.ref a :: st) S cells slots := 
  r_get (T := TX5) (Cn := RX5) C (by rw [hK]; decide) (ent_5 hK) rfl 2 (by decide) inb_5 (show (Cond.fieldLink RX7 100 RX0 "condition" "I").before args s = true from (C.w (mem_tb (mem_tbl 440 (by decide +kernel)) (by decide +kernel)))) (fun _ h => h) rfl d hn kk
theorem gX7_188_4 (C : Cx p l s m args meth c cc nL RX7 ret G b) {n a : Nat} (hK : sK S a = 4) (d : decode cc pc = .ok (.getfield 188, 3)) (hn : pc + 3 = n) (kk : J p l e R s m args below meth c nL G b Q n lv (.int (fI S 3 a) :: st) S cells slots) : J p l e R s m args below meth c nL G b Q pc lv (.ref a :: st) S cells slots := 
  r_get (T := TX4) (Cn := RX4) C (by rw [hK]; decide) (ent_4 hK) rfl 3 (by decide) inb_4 (show (Cond.fieldLink RX7 188 RX0 "timesLate" "I").before args s = true from (C.w (mem_tb (mem_tbl 449 (by decide +kernel)) (by decide +kernel)))) (fun _ h => h) rfl d hn kk
theorem gX7_188_5 (C : Cx p l s m args meth c cc nL RX7 ret G b) {n a : Nat} (hK : sK S a = 5) (d : decode cc pc = .ok (.getfield 188, 3)) (hn : pc + 3 = n) (kk : J p l e R s m args below meth c nL G b Q n lv (.int (fI S 3 a) :: st) S cells slots) : J p l e R s m args below meth c nL G b Q pc lv (.ref a :: st) S cells slots := 
  r_get (T := TX5) (Cn := RX5) C (by rw [hK]; decide) (ent_5 hK) rfl 3 (by decide) inb_5 (show (Cond.fieldLink RX7 188 RX0 "timesLate" "I").before args s = true from (C.w (mem_tb (mem_tbl 449 (by decide +kernel)) (by decide +kernel)))) (fun _ h => h) rfl d hn kk
theorem gX7_191 (C : Cx p l s m args meth c cc nL RX7 ret G b) {n a : Nat} (hK : sK S a = 5) (d : decode cc pc = .ok (.getfield 191, 3)) (hn : pc + 3 = n) (kk : J p l e R s m args below meth c nL G b Q n lv (.long (fJ S 514 a) :: st) S cells slots) : J p l e R s m args below meth c nL G b Q pc lv (.ref a :: st) S cells slots := 
  r_getN (T := TX5) (Cn := RX5) C (by rw [hK]; decide) (ent_5 hK) rfl 14 (by decide) inb_5 (show (Cond.fieldLinkNest RX7 191 RX5 "squares" "J" RX7).before args s = true from (C.bw (mem_bw (mem_tbl 430 (by decide +kernel)) rfl))) (fun _ h => h) rfl d hn kk
theorem gX7_197 (C : Cx p l s m args meth c cc nL RX7 ret G b) {n a : Nat} (hK : sK S a = 3) (d : decode cc pc = .ok (.getfield 197, 3)) (hn : pc + 3 = n) (kk : J p l e R s m args below meth c nL G b Q n lv (.int (fI S 302 a) :: st) S cells slots) : J p l e R s m args below meth c nL G b Q pc lv (.ref a :: st) S cells slots := 
  r_getN (T := TX3) (Cn := RX3) C (by rw [hK]; decide) (ent_3 hK) rfl 2 (by decide) inb_3 (show (Cond.fieldLinkNest RX7 197 RX3 "cuts" "I" RX7).before args s = true from (C.bw (mem_bw (mem_tbl 57 (by decide +kernel)) rfl))) (fun _ h => h) rfl d hn kk
theorem gX7_200 (C : Cx p l s m args meth c cc nL RX7 ret G b) {n a : Nat} (hK : sK S a = 3) (d : decode cc pc = .ok (.getfield 200, 3)) (hn : pc + 3 = n) (kk : J p l e R s m args below meth c nL G b Q n lv (.int (fI S 300 a) :: st) S cells slots) : J p l e R s m args below meth c nL G b Q pc lv (.ref a :: st) S cells slots := 
  r_getN (T := TX3) (Cn := RX3) C (by rw [hK]; decide) (ent_3 hK) rfl 0 (by decide) inb_3 (show (Cond.fieldLinkNest RX7 200 RX3 "on" "Z" RX7).before args s = true from (C.bw (mem_bw (mem_tbl 53 (by decide +kernel)) rfl))) (fun _ h => h) rfl d hn kk
theorem gX7_203 (C : Cx p l s m args meth c cc nL RX7 ret G b) {n a : Nat} (hK : sK S a = 3) (d : decode cc pc = .ok (.getfield 203, 3)) (hn : pc + 3 = n) (kk : J p l e R s m args below meth c nL G b Q n lv (.int (fI S 301 a) :: st) S cells slots) : J p l e R s m args below meth c nL G b Q pc lv (.ref a :: st) S cells slots := 
  r_getN (T := TX3) (Cn := RX3) C (by rw [hK]; decide) (ent_3 hK) rfl 1 (by decide) inb_3 (show (Cond.fieldLinkNest RX7 203 RX3 "factor" "I" RX7).before args s = true from (C.bw (mem_bw (mem_tbl 55 (by decide +kernel)) rfl))) (fun _ h => h) rfl d hn kk
theorem gX7_230 (C : Cx p l s m args meth c cc nL RX7 ret G b) {n a : Nat} (hK : sK S a = 4) (d : decode cc pc = .ok (.getfield 230, 3)) (hn : pc + 3 = n) (kk : J p l e R s m args below meth c nL G b Q n lv (.int (fI S 2 a) :: st) S cells slots) : J p l e R s m args below meth c nL G b Q pc lv (.ref a :: st) S cells slots := 
  r_get (T := TX4) (Cn := RX4) C (by rw [hK]; decide) (ent_4 hK) rfl 2 (by decide) inb_4 (show (Cond.fieldLink RX7 230 RX4 "condition" "I").before args s = true from (C.w (mem_tb (mem_tbl 442 (by decide +kernel)) (by decide +kernel)))) (fun x h => u_same (C.w (mem_tb (mem_tbl 443 (by decide +kernel)) (by decide +kernel))) x h) rfl d hn kk
theorem gX0_18_4 (C : Cx p l s m args meth c cc nL RX0 ret G b) {n a : Nat} (hK : sK S a = 4) (d : decode cc pc = .ok (.getfield 18, 3)) (hn : pc + 3 = n) (kk : J p l e R s m args below meth c nL G b Q n lv (.int (fI S 4 a) :: st) S cells slots) : J p l e R s m args below meth c nL G b Q pc lv (.ref a :: st) S cells slots := 
  r_get (T := TX4) (Cn := RX4) C (by rw [hK]; decide) (ent_4 hK) rfl 4 (by decide) inb_4 (show (Cond.fieldLink RX0 18 RX0 "half" "Z").before args s = true from (C.w (mem_tb (mem_tbl 450 (by decide +kernel)) (by decide +kernel)))) (fun _ h => h) rfl d hn kk
theorem gX0_18_5 (C : Cx p l s m args meth c cc nL RX0 ret G b) {n a : Nat} (hK : sK S a = 5) (d : decode cc pc = .ok (.getfield 18, 3)) (hn : pc + 3 = n) (kk : J p l e R s m args below meth c nL G b Q n lv (.int (fI S 4 a) :: st) S cells slots) : J p l e R s m args below meth c nL G b Q pc lv (.ref a :: st) S cells slots := 
  r_get (T := TX5) (Cn := RX5) C (by rw [hK]; decide) (ent_5 hK) rfl 4 (by decide) inb_5 (show (Cond.fieldLink RX0 18 RX0 "half" "Z").before args s = true from (C.w (mem_tb (mem_tbl 450 (by decide +kernel)) (by decide +kernel)))) (fun _ h => h) rfl d hn kk
theorem gX0_22_4 (C : Cx p l s m args meth c cc nL RX0 ret G b) {n a : Nat} (hK : sK S a = 4) (d : decode cc pc = .ok (.getfield 22, 3)) (hn : pc + 3 = n) (kk : J p l e R s m args below meth c nL G b Q n lv (.int (fI S 0 a) :: st) S cells slots) : J p l e R s m args below meth c nL G b Q pc lv (.ref a :: st) S cells slots := 
  r_get (T := TX4) (Cn := RX4) C (by rw [hK]; decide) (ent_4 hK) rfl 0 (by decide) inb_4 (show (Cond.fieldLink RX0 22 RX0 "channels" "I").before args s = true from (C.w (mem_tb (mem_tbl 431 (by decide +kernel)) (by decide +kernel)))) (fun _ h => h) rfl d hn kk
theorem gX0_22_5 (C : Cx p l s m args meth c cc nL RX0 ret G b) {n a : Nat} (hK : sK S a = 5) (d : decode cc pc = .ok (.getfield 22, 3)) (hn : pc + 3 = n) (kk : J p l e R s m args below meth c nL G b Q n lv (.int (fI S 0 a) :: st) S cells slots) : J p l e R s m args below meth c nL G b Q pc lv (.ref a :: st) S cells slots := 
  r_get (T := TX5) (Cn := RX5) C (by rw [hK]; decide) (ent_5 hK) rfl 0 (by decide) inb_5 (show (Cond.fieldLink RX0 22 RX0 "channels" "I").before args s = true from (C.w (mem_tb (mem_tbl 431 (by decide +kernel)) (by decide +kernel)))) (fun _ h => h) rfl d hn kk
theorem gX0_25_4 (C : Cx p l s m args meth c cc nL RX0 ret G b) {n a : Nat} (hK : sK S a = 4) (d : decode cc pc = .ok (.getfield 25, 3)) (hn : pc + 3 = n) (kk : J p l e R s m args below meth c nL G b Q n lv (.int (fI S 1 a) :: st) S cells slots) : J p l e R s m args below meth c nL G b Q pc lv (.ref a :: st) S cells slots := 
  r_get (T := TX4) (Cn := RX4) C (by rw [hK]; decide) (ent_4 hK) rfl 1 (by decide) inb_4 (show (Cond.fieldLink RX0 25 RX0 "bits" "I").before args s = true from (C.w (mem_tb (mem_tbl 436 (by decide +kernel)) (by decide +kernel)))) (fun _ h => h) rfl d hn kk
theorem gX0_25_5 (C : Cx p l s m args meth c cc nL RX0 ret G b) {n a : Nat} (hK : sK S a = 5) (d : decode cc pc = .ok (.getfield 25, 3)) (hn : pc + 3 = n) (kk : J p l e R s m args below meth c nL G b Q n lv (.int (fI S 1 a) :: st) S cells slots) : J p l e R s m args below meth c nL G b Q pc lv (.ref a :: st) S cells slots := 
  r_get (T := TX5) (Cn := RX5) C (by rw [hK]; decide) (ent_5 hK) rfl 1 (by decide) inb_5 (show (Cond.fieldLink RX0 25 RX0 "bits" "I").before args s = true from (C.w (mem_tb (mem_tbl 436 (by decide +kernel)) (by decide +kernel)))) (fun _ h => h) rfl d hn kk
theorem gX1_7 (C : Cx p l s m args meth c cc nL RX1 ret G b) {n a : Nat} {x : Nat} (hK : sK S a = 1) (hx : fR S 100 a = some x) (d : decode cc pc = .ok (.getfield 7, 3)) (hn : pc + 3 = n) (kk : J p l e R s m args below meth c nL G b Q n lv (.ref x :: st) S cells slots) : J p l e R s m args below meth c nL G b Q pc lv (.ref a :: st) S cells slots := 
  r_get (T := TX1) (Cn := RX1) C (by rw [hK]; decide) (ent_1 hK) rfl 0 (by decide) inb_1 (show (Cond.fieldLink RX1 7 RX1 "taps" "LSoundKernel$Taps;").before args s = true from (C.w (mem_tb (mem_tbl 409 (by decide +kernel)) (by decide +kernel)))) (fun _ h => h) rfl d hn (by rw [hx]; exact kk)
theorem gX1_13 (C : Cx p l s m args meth c cc nL RX1 ret G b) {n a : Nat} (hK : sK S a = 1) (d : decode cc pc = .ok (.getfield 13, 3)) (hn : pc + 3 = n) (kk : J p l e R s m args below meth c nL G b Q n lv (.long (fJ S 101 a) :: st) S cells slots) : J p l e R s m args below meth c nL G b Q pc lv (.ref a :: st) S cells slots := 
  r_get (T := TX1) (Cn := RX1) C (by rw [hK]; decide) (ent_1 hK) rfl 1 (by decide) inb_1 (show (Cond.fieldLink RX1 13 RX1 "from" "J").before args s = true from (C.w (mem_tb (mem_tbl 410 (by decide +kernel)) (by decide +kernel)))) (fun _ h => h) rfl d hn kk
theorem gX1_23 (C : Cx p l s m args meth c cc nL RX1 ret G b) {n a : Nat} (hK : sK S a = 1) (d : decode cc pc = .ok (.getfield 23, 3)) (hn : pc + 3 = n) (kk : J p l e R s m args below meth c nL G b Q n lv (.long (fJ S 102 a) :: st) S cells slots) : J p l e R s m args below meth c nL G b Q pc lv (.ref a :: st) S cells slots := 
  r_get (T := TX1) (Cn := RX1) C (by rw [hK]; decide) (ent_1 hK) rfl 2 (by decide) inb_1 (show (Cond.fieldLink RX1 23 RX1 "to" "J").before args s = true from (C.w (mem_tb (mem_tbl 411 (by decide +kernel)) (by decide +kernel)))) (fun _ h => h) rfl d hn kk
theorem gX2_9 (C : Cx p l s m args meth c cc nL RX2 ret G b) {n a : Nat} {x : Nat} (hK : sK S a = 2) (hx : fR S 200 a = some x) (d : decode cc pc = .ok (.getfield 9, 3)) (hn : pc + 3 = n) (kk : J p l e R s m args below meth c nL G b Q n lv (.ref x :: st) S cells slots) : J p l e R s m args below meth c nL G b Q pc lv (.ref a :: st) S cells slots := 
  r_get (T := TX2) (Cn := RX2) C (by rw [hK]; decide) (ent_2 hK) rfl 0 (by decide) inb_2 (show (Cond.fieldLink RX2 9 RX2 "lefts" "[I").before args s = true from (C.w (mem_tb (mem_tbl 389 (by decide +kernel)) (by decide +kernel)))) (fun _ h => h) rfl d hn (by rw [hx]; exact kk)
theorem gX2_13 (C : Cx p l s m args meth c cc nL RX2 ret G b) {n a : Nat} {x : Nat} (hK : sK S a = 2) (hx : fR S 201 a = some x) (d : decode cc pc = .ok (.getfield 13, 3)) (hn : pc + 3 = n) (kk : J p l e R s m args below meth c nL G b Q n lv (.ref x :: st) S cells slots) : J p l e R s m args below meth c nL G b Q pc lv (.ref a :: st) S cells slots := 
  r_get (T := TX2) (Cn := RX2) C (by rw [hK]; decide) (ent_2 hK) rfl 1 (by decide) inb_2 (show (Cond.fieldLink RX2 13 RX2 "rights" "[I").before args s = true from (C.w (mem_tb (mem_tbl 390 (by decide +kernel)) (by decide +kernel)))) (fun _ h => h) rfl d hn (by rw [hx]; exact kk)
theorem gX2_16 (C : Cx p l s m args meth c cc nL RX2 ret G b) {n a : Nat} (hK : sK S a = 2) (d : decode cc pc = .ok (.getfield 16, 3)) (hn : pc + 3 = n) (kk : J p l e R s m args below meth c nL G b Q n lv (.long (fJ S 202 a) :: st) S cells slots) : J p l e R s m args below meth c nL G b Q pc lv (.ref a :: st) S cells slots := 
  r_get (T := TX2) (Cn := RX2) C (by rw [hK]; decide) (ent_2 hK) rfl 2 (by decide) inb_2 (show (Cond.fieldLink RX2 16 RX2 "count" "J").before args s = true from (C.w (mem_tb (mem_tbl 391 (by decide +kernel)) (by decide +kernel)))) (fun _ h => h) rfl d hn kk
theorem gX3_9 (C : Cx p l s m args meth c cc nL RX3 ret G b) {n a : Nat} (hK : sK S a = 3) (d : decode cc pc = .ok (.getfield 9, 3)) (hn : pc + 3 = n) (kk : J p l e R s m args below meth c nL G b Q n lv (.int (fI S 300 a) :: st) S cells slots) : J p l e R s m args below meth c nL G b Q pc lv (.ref a :: st) S cells slots := 
  r_get (T := TX3) (Cn := RX3) C (by rw [hK]; decide) (ent_3 hK) rfl 0 (by decide) inb_3 (show (Cond.fieldLink RX3 9 RX3 "on" "Z").before args s = true from (C.w (mem_tb (mem_tbl 52 (by decide +kernel)) (by decide +kernel)))) (fun _ h => h) rfl d hn kk
theorem gX3_15 (C : Cx p l s m args meth c cc nL RX3 ret G b) {n a : Nat} (hK : sK S a = 3) (d : decode cc pc = .ok (.getfield 15, 3)) (hn : pc + 3 = n) (kk : J p l e R s m args below meth c nL G b Q n lv (.int (fI S 301 a) :: st) S cells slots) : J p l e R s m args below meth c nL G b Q pc lv (.ref a :: st) S cells slots := 
  r_get (T := TX3) (Cn := RX3) C (by rw [hK]; decide) (ent_3 hK) rfl 1 (by decide) inb_3 (show (Cond.fieldLink RX3 15 RX3 "factor" "I").before args s = true from (C.w (mem_tb (mem_tbl 54 (by decide +kernel)) (by decide +kernel)))) (fun _ h => h) rfl d hn kk
theorem gX3_19 (C : Cx p l s m args meth c cc nL RX3 ret G b) {n a : Nat} (hK : sK S a = 3) (d : decode cc pc = .ok (.getfield 19, 3)) (hn : pc + 3 = n) (kk : J p l e R s m args below meth c nL G b Q n lv (.int (fI S 302 a) :: st) S cells slots) : J p l e R s m args below meth c nL G b Q pc lv (.ref a :: st) S cells slots := 
  r_get (T := TX3) (Cn := RX3) C (by rw [hK]; decide) (ent_3 hK) rfl 2 (by decide) inb_3 (show (Cond.fieldLink RX3 19 RX3 "cuts" "I").before args s = true from (C.w (mem_tb (mem_tbl 56 (by decide +kernel)) (by decide +kernel)))) (fun _ h => h) rfl d hn kk
theorem gX3_22 (C : Cx p l s m args meth c cc nL RX3 ret G b) {n a : Nat} (hK : sK S a = 3) (d : decode cc pc = .ok (.getfield 22, 3)) (hn : pc + 3 = n) (kk : J p l e R s m args below meth c nL G b Q n lv (.long (fJ S 303 a) :: st) S cells slots) : J p l e R s m args below meth c nL G b Q pc lv (.ref a :: st) S cells slots := 
  r_get (T := TX3) (Cn := RX3) C (by rw [hK]; decide) (ent_3 hK) rfl 3 (by decide) inb_3 (show (Cond.fieldLink RX3 22 RX3 "frames" "J").before args s = true from (C.w (mem_tb (mem_tbl 58 (by decide +kernel)) (by decide +kernel)))) (fun _ h => h) rfl d hn kk
theorem gX4_14 (C : Cx p l s m args meth c cc nL RX4 ret G b) {n a : Nat} {x : Nat} (hK : sK S a = 4) (hx : fR S 406 a = some x) (d : decode cc pc = .ok (.getfield 14, 3)) (hn : pc + 3 = n) (kk : J p l e R s m args below meth c nL G b Q n lv (.ref x :: st) S cells slots) : J p l e R s m args below meth c nL G b Q pc lv (.ref a :: st) S cells slots := 
  r_get (T := TX4) (Cn := RX4) C (by rw [hK]; decide) (ent_4 hK) rfl 6 (by decide) inb_4 (show (Cond.fieldLink RX4 14 RX4 "captured" "LSoundKernel$Frames;").before args s = true from (C.w (mem_tb (mem_tbl 497 (by decide +kernel)) (by decide +kernel)))) (fun _ h => h) rfl d hn (by rw [hx]; exact kk)
theorem gX4_20 (C : Cx p l s m args meth c cc nL RX4 ret G b) {n a : Nat} {x : Nat} (hK : sK S a = 4) (hx : fR S 407 a = some x) (d : decode cc pc = .ok (.getfield 20, 3)) (hn : pc + 3 = n) (kk : J p l e R s m args below meth c nL G b Q n lv (.ref x :: st) S cells slots) : J p l e R s m args below meth c nL G b Q pc lv (.ref a :: st) S cells slots := 
  r_get (T := TX4) (Cn := RX4) C (by rw [hK]; decide) (ent_4 hK) rfl 7 (by decide) inb_4 (show (Cond.fieldLink RX4 20 RX4 "unlocked" "LSoundKernel$Frames;").before args s = true from (C.w (mem_tb (mem_tbl 498 (by decide +kernel)) (by decide +kernel)))) (fun _ h => h) rfl d hn (by rw [hx]; exact kk)
theorem gX4_23 (C : Cx p l s m args meth c cc nL RX4 ret G b) {n a : Nat} (hK : sK S a = 4) (d : decode cc pc = .ok (.getfield 23, 3)) (hn : pc + 3 = n) (kk : J p l e R s m args below meth c nL G b Q n lv (.long (fJ S 408 a) :: st) S cells slots) : J p l e R s m args below meth c nL G b Q pc lv (.ref a :: st) S cells slots := 
  r_get (T := TX4) (Cn := RX4) C (by rw [hK]; decide) (ent_4 hK) rfl 8 (by decide) inb_4 (show (Cond.fieldLink RX4 23 RX4 "next" "J").before args s = true from (C.w (mem_tb (mem_tbl 499 (by decide +kernel)) (by decide +kernel)))) (fun _ h => h) rfl d hn kk
theorem gX4_27 (C : Cx p l s m args meth c cc nL RX4 ret G b) {n a : Nat} (hK : sK S a = 4) (d : decode cc pc = .ok (.getfield 27, 3)) (hn : pc + 3 = n) (kk : J p l e R s m args below meth c nL G b Q n lv (.long (fJ S 409 a) :: st) S cells slots) : J p l e R s m args below meth c nL G b Q pc lv (.ref a :: st) S cells slots := 
  r_get (T := TX4) (Cn := RX4) C (by rw [hK]; decide) (ent_4 hK) rfl 9 (by decide) inb_4 (show (Cond.fieldLink RX4 27 RX4 "wholly" "J").before args s = true from (C.w (mem_tb (mem_tbl 500 (by decide +kernel)) (by decide +kernel)))) (fun _ h => h) rfl d hn kk
theorem gX4_36 (C : Cx p l s m args meth c cc nL RX4 ret G b) {n a : Nat} {x : Nat} (hK : sK S a = 4) (hx : fR S 405 a = some x) (d : decode cc pc = .ok (.getfield 36, 3)) (hn : pc + 3 = n) (kk : J p l e R s m args below meth c nL G b Q n lv (.ref x :: st) S cells slots) : J p l e R s m args below meth c nL G b Q pc lv (.ref a :: st) S cells slots := 
  r_get (T := TX4) (Cn := RX4) C (by rw [hK]; decide) (ent_4 hK) rfl 5 (by decide) inb_4 (show (Cond.fieldLink RX4 36 RX4 "converter" "LSoundKernel$Converter;").before args s = true from (C.w (mem_tb (mem_tbl 496 (by decide +kernel)) (by decide +kernel)))) (fun _ h => h) rfl d hn (by rw [hx]; exact kk)
theorem gX4_40 (C : Cx p l s m args meth c cc nL RX4 ret G b) {n a : Nat} (hK : sK S a = 2) (d : decode cc pc = .ok (.getfield 40, 3)) (hn : pc + 3 = n) (kk : J p l e R s m args below meth c nL G b Q n lv (.long (fJ S 202 a) :: st) S cells slots) : J p l e R s m args below meth c nL G b Q pc lv (.ref a :: st) S cells slots := 
  r_getN (T := TX2) (Cn := RX2) C (by rw [hK]; decide) (ent_2 hK) rfl 2 (by decide) inb_2 (show (Cond.fieldLinkNest RX4 40 RX2 "count" "J" RX7).before args s = true from (C.bw (mem_bw (mem_tbl 392 (by decide +kernel)) rfl))) (fun _ h => h) rfl d hn kk
theorem gX4_56 (C : Cx p l s m args meth c cc nL RX4 ret G b) {n a : Nat} (hK : sK S a = 4) (d : decode cc pc = .ok (.getfield 56, 3)) (hn : pc + 3 = n) (kk : J p l e R s m args below meth c nL G b Q n lv (.int (fI S 3 a) :: st) S cells slots) : J p l e R s m args below meth c nL G b Q pc lv (.ref a :: st) S cells slots := 
  r_get (T := TX4) (Cn := RX4) C (by rw [hK]; decide) (ent_4 hK) rfl 3 (by decide) inb_4 (show (Cond.fieldLink RX4 56 RX4 "timesLate" "I").before args s = true from (C.w (mem_tb (mem_tbl 445 (by decide +kernel)) (by decide +kernel)))) (fun x h => u_same (C.w (mem_tb (mem_tbl 446 (by decide +kernel)) (by decide +kernel))) x h) rfl d hn kk
theorem gX4_68 (C : Cx p l s m args meth c cc nL RX4 ret G b) {n a : Nat} (hK : sK S a = 4) (d : decode cc pc = .ok (.getfield 68, 3)) (hn : pc + 3 = n) (kk : J p l e R s m args below meth c nL G b Q n lv (.int (fI S 0 a) :: st) S cells slots) : J p l e R s m args below meth c nL G b Q pc lv (.ref a :: st) S cells slots := 
  r_get (T := TX4) (Cn := RX4) C (by rw [hK]; decide) (ent_4 hK) rfl 0 (by decide) inb_4 (show (Cond.fieldLink RX4 68 RX4 "channels" "I").before args s = true from (C.w (mem_tb (mem_tbl 434 (by decide +kernel)) (by decide +kernel)))) (fun x h => u_same (C.w (mem_tb (mem_tbl 435 (by decide +kernel)) (by decide +kernel))) x h) rfl d hn kk
theorem gX4_81 (C : Cx p l s m args meth c cc nL RX4 ret G b) {n a : Nat} (hK : sK S a = 4) (d : decode cc pc = .ok (.getfield 81, 3)) (hn : pc + 3 = n) (kk : J p l e R s m args below meth c nL G b Q n lv (.int (fI S 4 a) :: st) S cells slots) : J p l e R s m args below meth c nL G b Q pc lv (.ref a :: st) S cells slots := 
  r_get (T := TX4) (Cn := RX4) C (by rw [hK]; decide) (ent_4 hK) rfl 4 (by decide) inb_4 (show (Cond.fieldLink RX4 81 RX4 "half" "Z").before args s = true from (C.w (mem_tb (mem_tbl 453 (by decide +kernel)) (by decide +kernel)))) (fun x h => u_same (C.w (mem_tb (mem_tbl 454 (by decide +kernel)) (by decide +kernel))) x h) rfl d hn kk
theorem gX5_14 (C : Cx p l s m args meth c cc nL RX5 ret G b) {n a : Nat} {x : Nat} (hK : sK S a = 5) (hx : fR S 506 a = some x) (d : decode cc pc = .ok (.getfield 14, 3)) (hn : pc + 3 = n) (kk : J p l e R s m args below meth c nL G b Q n lv (.ref x :: st) S cells slots) : J p l e R s m args below meth c nL G b Q pc lv (.ref a :: st) S cells slots := 
  r_get (T := TX5) (Cn := RX5) C (by rw [hK]; decide) (ent_5 hK) rfl 6 (by decide) inb_5 (show (Cond.fieldLink RX5 14 RX5 "written" "LSoundKernel$Frames;").before args s = true from (C.w (mem_tb (mem_tbl 420 (by decide +kernel)) (by decide +kernel)))) (fun _ h => h) rfl d hn (by rw [hx]; exact kk)
theorem gX5_20 (C : Cx p l s m args meth c cc nL RX5 ret G b) {n a : Nat} {x : Nat} (hK : sK S a = 5) (hx : fR S 507 a = some x) (d : decode cc pc = .ok (.getfield 20, 3)) (hn : pc + 3 = n) (kk : J p l e R s m args below meth c nL G b Q n lv (.ref x :: st) S cells slots) : J p l e R s m args below meth c nL G b Q pc lv (.ref a :: st) S cells slots := 
  r_get (T := TX5) (Cn := RX5) C (by rw [hK]; decide) (ent_5 hK) rfl 7 (by decide) inb_5 (show (Cond.fieldLink RX5 20 RX5 "outputsIn" "[I").before args s = true from (C.w (mem_tb (mem_tbl 421 (by decide +kernel)) (by decide +kernel)))) (fun _ h => h) rfl d hn (by rw [hx]; exact kk)
theorem gX5_24 (C : Cx p l s m args meth c cc nL RX5 ret G b) {n a : Nat} (hK : sK S a = 5) (d : decode cc pc = .ok (.getfield 24, 3)) (hn : pc + 3 = n) (kk : J p l e R s m args below meth c nL G b Q n lv (.int (fI S 508 a) :: st) S cells slots) : J p l e R s m args below meth c nL G b Q pc lv (.ref a :: st) S cells slots := 
  r_get (T := TX5) (Cn := RX5) C (by rw [hK]; decide) (ent_5 hK) rfl 8 (by decide) inb_5 (show (Cond.fieldLink RX5 24 RX5 "loudness" "I").before args s = true from (C.w (mem_tb (mem_tbl 422 (by decide +kernel)) (by decide +kernel)))) (fun _ h => h) rfl d hn kk
theorem gX5_28 (C : Cx p l s m args meth c cc nL RX5 ret G b) {n a : Nat} (hK : sK S a = 5) (d : decode cc pc = .ok (.getfield 28, 3)) (hn : pc + 3 = n) (kk : J p l e R s m args below meth c nL G b Q n lv (.int (fI S 509 a) :: st) S cells slots) : J p l e R s m args below meth c nL G b Q pc lv (.ref a :: st) S cells slots := 
  r_get (T := TX5) (Cn := RX5) C (by rw [hK]; decide) (ent_5 hK) rfl 9 (by decide) inb_5 (show (Cond.fieldLink RX5 28 RX5 "heldLeft" "I").before args s = true from (C.w (mem_tb (mem_tbl 424 (by decide +kernel)) (by decide +kernel)))) (fun _ h => h) rfl d hn kk
theorem gX5_31 (C : Cx p l s m args meth c cc nL RX5 ret G b) {n a : Nat} (hK : sK S a = 5) (d : decode cc pc = .ok (.getfield 31, 3)) (hn : pc + 3 = n) (kk : J p l e R s m args below meth c nL G b Q n lv (.int (fI S 510 a) :: st) S cells slots) : J p l e R s m args below meth c nL G b Q pc lv (.ref a :: st) S cells slots := 
  r_get (T := TX5) (Cn := RX5) C (by rw [hK]; decide) (ent_5 hK) rfl 10 (by decide) inb_5 (show (Cond.fieldLink RX5 31 RX5 "lastLeft" "I").before args s = true from (C.w (mem_tb (mem_tbl 425 (by decide +kernel)) (by decide +kernel)))) (fun _ h => h) rfl d hn kk
theorem gX5_34 (C : Cx p l s m args meth c cc nL RX5 ret G b) {n a : Nat} (hK : sK S a = 5) (d : decode cc pc = .ok (.getfield 34, 3)) (hn : pc + 3 = n) (kk : J p l e R s m args below meth c nL G b Q n lv (.int (fI S 511 a) :: st) S cells slots) : J p l e R s m args below meth c nL G b Q pc lv (.ref a :: st) S cells slots := 
  r_get (T := TX5) (Cn := RX5) C (by rw [hK]; decide) (ent_5 hK) rfl 11 (by decide) inb_5 (show (Cond.fieldLink RX5 34 RX5 "lastRight" "I").before args s = true from (C.w (mem_tb (mem_tbl 426 (by decide +kernel)) (by decide +kernel)))) (fun _ h => h) rfl d hn kk
theorem gX5_37 (C : Cx p l s m args meth c cc nL RX5 ret G b) {n a : Nat} (hK : sK S a = 5) (d : decode cc pc = .ok (.getfield 37, 3)) (hn : pc + 3 = n) (kk : J p l e R s m args below meth c nL G b Q n lv (.long (fJ S 512 a) :: st) S cells slots) : J p l e R s m args below meth c nL G b Q pc lv (.ref a :: st) S cells slots := 
  r_get (T := TX5) (Cn := RX5) C (by rw [hK]; decide) (ent_5 hK) rfl 12 (by decide) inb_5 (show (Cond.fieldLink RX5 37 RX5 "next" "J").before args s = true from (C.w (mem_tb (mem_tbl 427 (by decide +kernel)) (by decide +kernel)))) (fun _ h => h) rfl d hn kk
theorem gX5_41 (C : Cx p l s m args meth c cc nL RX5 ret G b) {n a : Nat} (hK : sK S a = 5) (d : decode cc pc = .ok (.getfield 41, 3)) (hn : pc + 3 = n) (kk : J p l e R s m args below meth c nL G b Q n lv (.long (fJ S 513 a) :: st) S cells slots) : J p l e R s m args below meth c nL G b Q pc lv (.ref a :: st) S cells slots := 
  r_get (T := TX5) (Cn := RX5) C (by rw [hK]; decide) (ent_5 hK) rfl 13 (by decide) inb_5 (show (Cond.fieldLink RX5 41 RX5 "heard" "J").before args s = true from (C.w (mem_tb (mem_tbl 428 (by decide +kernel)) (by decide +kernel)))) (fun _ h => h) rfl d hn kk
theorem gX5_53 (C : Cx p l s m args meth c cc nL RX5 ret G b) {n a : Nat} {x : Nat} (hK : sK S a = 5) (hx : fR S 505 a = some x) (d : decode cc pc = .ok (.getfield 53, 3)) (hn : pc + 3 = n) (kk : J p l e R s m args below meth c nL G b Q n lv (.ref x :: st) S cells slots) : J p l e R s m args below meth c nL G b Q pc lv (.ref a :: st) S cells slots := 
  r_get (T := TX5) (Cn := RX5) C (by rw [hK]; decide) (ent_5 hK) rfl 5 (by decide) inb_5 (show (Cond.fieldLink RX5 53 RX5 "outputs" "LSoundKernel$Converter;").before args s = true from (C.w (mem_tb (mem_tbl 419 (by decide +kernel)) (by decide +kernel)))) (fun _ h => h) rfl d hn (by rw [hx]; exact kk)
theorem gX5_57 (C : Cx p l s m args meth c cc nL RX5 ret G b) {n a : Nat} (hK : sK S a = 5) (d : decode cc pc = .ok (.getfield 57, 3)) (hn : pc + 3 = n) (kk : J p l e R s m args below meth c nL G b Q n lv (.int (fI S 2 a) :: st) S cells slots) : J p l e R s m args below meth c nL G b Q pc lv (.ref a :: st) S cells slots := 
  r_get (T := TX5) (Cn := RX5) C (by rw [hK]; decide) (ent_5 hK) rfl 2 (by decide) inb_5 (show (Cond.fieldLink RX5 57 RX5 "condition" "I").before args s = true from (C.w (mem_tb (mem_tbl 438 (by decide +kernel)) (by decide +kernel)))) (fun x h => u_same (C.w (mem_tb (mem_tbl 439 (by decide +kernel)) (by decide +kernel))) x h) rfl d hn kk
theorem gX5_80 (C : Cx p l s m args meth c cc nL RX5 ret G b) {n a : Nat} (hK : sK S a = 5) (d : decode cc pc = .ok (.getfield 80, 3)) (hn : pc + 3 = n) (kk : J p l e R s m args below meth c nL G b Q n lv (.int (fI S 0 a) :: st) S cells slots) : J p l e R s m args below meth c nL G b Q pc lv (.ref a :: st) S cells slots := 
  r_get (T := TX5) (Cn := RX5) C (by rw [hK]; decide) (ent_5 hK) rfl 0 (by decide) inb_5 (show (Cond.fieldLink RX5 80 RX5 "channels" "I").before args s = true from (C.w (mem_tb (mem_tbl 432 (by decide +kernel)) (by decide +kernel)))) (fun x h => u_same (C.w (mem_tb (mem_tbl 433 (by decide +kernel)) (by decide +kernel))) x h) rfl d hn kk
theorem gX5_86 (C : Cx p l s m args meth c cc nL RX5 ret G b) {n a : Nat} (hK : sK S a = 5) (d : decode cc pc = .ok (.getfield 86, 3)) (hn : pc + 3 = n) (kk : J p l e R s m args below meth c nL G b Q n lv (.int (fI S 4 a) :: st) S cells slots) : J p l e R s m args below meth c nL G b Q pc lv (.ref a :: st) S cells slots := 
  r_get (T := TX5) (Cn := RX5) C (by rw [hK]; decide) (ent_5 hK) rfl 4 (by decide) inb_5 (show (Cond.fieldLink RX5 86 RX5 "half" "Z").before args s = true from (C.w (mem_tb (mem_tbl 451 (by decide +kernel)) (by decide +kernel)))) (fun x h => u_same (C.w (mem_tb (mem_tbl 452 (by decide +kernel)) (by decide +kernel))) x h) rfl d hn kk
theorem gX5_122 (C : Cx p l s m args meth c cc nL RX5 ret G b) {n a : Nat} (hK : sK S a = 2) (d : decode cc pc = .ok (.getfield 122, 3)) (hn : pc + 3 = n) (kk : J p l e R s m args below meth c nL G b Q n lv (.long (fJ S 202 a) :: st) S cells slots) : J p l e R s m args below meth c nL G b Q pc lv (.ref a :: st) S cells slots := 
  r_getN (T := TX2) (Cn := RX2) C (by rw [hK]; decide) (ent_2 hK) rfl 2 (by decide) inb_2 (show (Cond.fieldLinkNest RX5 122 RX2 "count" "J" RX7).before args s = true from (C.bw (mem_bw (mem_tbl 393 (by decide +kernel)) rfl))) (fun _ h => h) rfl d hn kk
theorem gX5_144 (C : Cx p l s m args meth c cc nL RX5 ret G b) {n a : Nat} (hK : sK S a = 5) (d : decode cc pc = .ok (.getfield 144, 3)) (hn : pc + 3 = n) (kk : J p l e R s m args below meth c nL G b Q n lv (.int (fI S 3 a) :: st) S cells slots) : J p l e R s m args below meth c nL G b Q pc lv (.ref a :: st) S cells slots := 
  r_get (T := TX5) (Cn := RX5) C (by rw [hK]; decide) (ent_5 hK) rfl 3 (by decide) inb_5 (show (Cond.fieldLink RX5 144 RX5 "timesLate" "I").before args s = true from (C.w (mem_tb (mem_tbl 447 (by decide +kernel)) (by decide +kernel)))) (fun x h => u_same (C.w (mem_tb (mem_tbl 448 (by decide +kernel)) (by decide +kernel))) x h) rfl d hn kk
theorem gX6_9 (C : Cx p l s m args meth c cc nL RX6 ret G b) {n a : Nat} {x : Nat} (hK : sK S a = 6) (hx : fR S 600 a = some x) (d : decode cc pc = .ok (.getfield 9, 3)) (hn : pc + 3 = n) (kk : J p l e R s m args below meth c nL G b Q n lv (.ref x :: st) S cells slots) : J p l e R s m args below meth c nL G b Q pc lv (.ref a :: st) S cells slots := 
  r_get (T := TX6) (Cn := RX6) C (by rw [hK]; decide) (ent_6 hK) rfl 0 (by decide) inb_6 (show (Cond.fieldLink RX6 9 RX6 "row" "[I").before args s = true from (C.w (mem_tb (mem_tbl 41 (by decide +kernel)) (by decide +kernel)))) (fun _ h => h) rfl d hn (by rw [hx]; exact kk)
theorem gX8_7 (C : Cx p l s m args meth c cc nL RX8 ret G b) {n a : Nat} {x : Nat} (hK : sK S a = 8) (hx : fR S 801 a = some x) (d : decode cc pc = .ok (.getfield 7, 3)) (hn : pc + 3 = n) (kk : J p l e R s m args below meth c nL G b Q n lv (.ref x :: st) S cells slots) : J p l e R s m args below meth c nL G b Q pc lv (.ref a :: st) S cells slots := 
  r_get (T := TX8) (Cn := RX8) C (by rw [hK]; decide) (ent_8 hK) rfl 1 (by decide) inb_8 (show (Cond.fieldLink RX8 7 RX8 "taps" "[I").before args s = true from (C.w (mem_tb (mem_tbl 751 (by decide +kernel)) (by decide +kernel)))) (fun _ h => h) rfl d hn (by rw [hx]; exact kk)
theorem gX8_13 (C : Cx p l s m args meth c cc nL RX8 ret G b) {n a : Nat} {x : Nat} (hK : sK S a = 8) (hx : fR S 802 a = some x) (d : decode cc pc = .ok (.getfield 13, 3)) (hn : pc + 3 = n) (kk : J p l e R s m args below meth c nL G b Q n lv (.ref x :: st) S cells slots) : J p l e R s m args below meth c nL G b Q pc lv (.ref a :: st) S cells slots := 
  r_get (T := TX8) (Cn := RX8) C (by rw [hK]; decide) (ent_8 hK) rfl 2 (by decide) inb_8 (show (Cond.fieldLink RX8 13 RX8 "isThere" "[Z").before args s = true from (C.w (mem_tb (mem_tbl 752 (by decide +kernel)) (by decide +kernel)))) (fun _ h => h) rfl d hn (by rw [hx]; exact kk)
theorem gX8_17 (C : Cx p l s m args meth c cc nL RX8 ret G b) {n a : Nat} {x : Nat} (hK : sK S a = 8) (hx : fR S 803 a = some x) (d : decode cc pc = .ok (.getfield 17, 3)) (hn : pc + 3 = n) (kk : J p l e R s m args below meth c nL G b Q n lv (.ref x :: st) S cells slots) : J p l e R s m args below meth c nL G b Q pc lv (.ref a :: st) S cells slots := 
  r_get (T := TX8) (Cn := RX8) C (by rw [hK]; decide) (ent_8 hK) rfl 3 (by decide) inb_8 (show (Cond.fieldLink RX8 17 RX8 "plays" "[Z").before args s = true from (C.w (mem_tb (mem_tbl 753 (by decide +kernel)) (by decide +kernel)))) (fun _ h => h) rfl d hn (by rw [hx]; exact kk)
theorem gX8_20 (C : Cx p l s m args meth c cc nL RX8 ret G b) {n a : Nat} {x : Nat} (hK : sK S a = 8) (hx : fR S 804 a = some x) (d : decode cc pc = .ok (.getfield 20, 3)) (hn : pc + 3 = n) (kk : J p l e R s m args below meth c nL G b Q n lv (.ref x :: st) S cells slots) : J p l e R s m args below meth c nL G b Q pc lv (.ref a :: st) S cells slots := 
  r_get (T := TX8) (Cn := RX8) C (by rw [hK]; decide) (ent_8 hK) rfl 4 (by decide) inb_8 (show (Cond.fieldLink RX8 20 RX8 "rate" "[I").before args s = true from (C.w (mem_tb (mem_tbl 754 (by decide +kernel)) (by decide +kernel)))) (fun _ h => h) rfl d hn (by rw [hx]; exact kk)
theorem gX8_23 (C : Cx p l s m args meth c cc nL RX8 ret G b) {n a : Nat} {x : Nat} (hK : sK S a = 8) (hx : fR S 805 a = some x) (d : decode cc pc = .ok (.getfield 23, 3)) (hn : pc + 3 = n) (kk : J p l e R s m args below meth c nL G b Q n lv (.ref x :: st) S cells slots) : J p l e R s m args below meth c nL G b Q pc lv (.ref a :: st) S cells slots := 
  r_get (T := TX8) (Cn := RX8) C (by rw [hK]; decide) (ent_8 hK) rfl 5 (by decide) inb_8 (show (Cond.fieldLink RX8 23 RX8 "channels" "[I").before args s = true from (C.w (mem_tb (mem_tbl 755 (by decide +kernel)) (by decide +kernel)))) (fun _ h => h) rfl d hn (by rw [hx]; exact kk)
theorem gX8_26 (C : Cx p l s m args meth c cc nL RX8 ret G b) {n a : Nat} {x : Nat} (hK : sK S a = 8) (hx : fR S 806 a = some x) (d : decode cc pc = .ok (.getfield 26, 3)) (hn : pc + 3 = n) (kk : J p l e R s m args below meth c nL G b Q n lv (.ref x :: st) S cells slots) : J p l e R s m args below meth c nL G b Q pc lv (.ref a :: st) S cells slots := 
  r_get (T := TX8) (Cn := RX8) C (by rw [hK]; decide) (ent_8 hK) rfl 6 (by decide) inb_8 (show (Cond.fieldLink RX8 26 RX8 "bits" "[I").before args s = true from (C.w (mem_tb (mem_tbl 756 (by decide +kernel)) (by decide +kernel)))) (fun _ h => h) rfl d hn (by rw [hx]; exact kk)
theorem gX8_29 (C : Cx p l s m args meth c cc nL RX8 ret G b) {n a : Nat} {x : Nat} (hK : sK S a = 8) (hx : fR S 807 a = some x) (d : decode cc pc = .ok (.getfield 29, 3)) (hn : pc + 3 = n) (kk : J p l e R s m args below meth c nL G b Q n lv (.ref x :: st) S cells slots) : J p l e R s m args below meth c nL G b Q pc lv (.ref a :: st) S cells slots := 
  r_get (T := TX8) (Cn := RX8) C (by rw [hK]; decide) (ent_8 hK) rfl 7 (by decide) inb_8 (show (Cond.fieldLink RX8 29 RX8 "gain" "[I").before args s = true from (C.w (mem_tb (mem_tbl 757 (by decide +kernel)) (by decide +kernel)))) (fun _ h => h) rfl d hn (by rw [hx]; exact kk)
theorem gX8_32 (C : Cx p l s m args meth c cc nL RX8 ret G b) {n a : Nat} {x : Nat} (hK : sK S a = 8) (hx : fR S 808 a = some x) (d : decode cc pc = .ok (.getfield 32, 3)) (hn : pc + 3 = n) (kk : J p l e R s m args below meth c nL G b Q n lv (.ref x :: st) S cells slots) : J p l e R s m args below meth c nL G b Q pc lv (.ref a :: st) S cells slots := 
  r_get (T := TX8) (Cn := RX8) C (by rw [hK]; decide) (ent_8 hK) rfl 8 (by decide) inb_8 (show (Cond.fieldLink RX8 32 RX8 "states" "[I").before args s = true from (C.w (mem_tb (mem_tbl 758 (by decide +kernel)) (by decide +kernel)))) (fun _ h => h) rfl d hn (by rw [hx]; exact kk)
theorem gX8_35 (C : Cx p l s m args meth c cc nL RX8 ret G b) {n a : Nat} {x : Nat} (hK : sK S a = 8) (hx : fR S 809 a = some x) (d : decode cc pc = .ok (.getfield 35, 3)) (hn : pc + 3 = n) (kk : J p l e R s m args below meth c nL G b Q n lv (.ref x :: st) S cells slots) : J p l e R s m args below meth c nL G b Q pc lv (.ref a :: st) S cells slots := 
  r_get (T := TX8) (Cn := RX8) C (by rw [hK]; decide) (ent_8 hK) rfl 9 (by decide) inb_8 (show (Cond.fieldLink RX8 35 RX8 "late" "[I").before args s = true from (C.w (mem_tb (mem_tbl 759 (by decide +kernel)) (by decide +kernel)))) (fun _ h => h) rfl d hn (by rw [hx]; exact kk)
theorem gX8_38 (C : Cx p l s m args meth c cc nL RX8 ret G b) {n a : Nat} {x : Nat} (hK : sK S a = 8) (hx : fR S 810 a = some x) (d : decode cc pc = .ok (.getfield 38, 3)) (hn : pc + 3 = n) (kk : J p l e R s m args below meth c nL G b Q n lv (.ref x :: st) S cells slots) : J p l e R s m args below meth c nL G b Q pc lv (.ref a :: st) S cells slots := 
  r_get (T := TX8) (Cn := RX8) C (by rw [hK]; decide) (ent_8 hK) rfl 10 (by decide) inb_8 (show (Cond.fieldLink RX8 38 RX8 "have" "[I").before args s = true from (C.w (mem_tb (mem_tbl 760 (by decide +kernel)) (by decide +kernel)))) (fun _ h => h) rfl d hn (by rw [hx]; exact kk)
theorem gX8_42 (C : Cx p l s m args meth c cc nL RX8 ret G b) {n a : Nat} {x : Nat} (hK : sK S a = 8) (hx : fR S 811 a = some x) (d : decode cc pc = .ok (.getfield 42, 3)) (hn : pc + 3 = n) (kk : J p l e R s m args below meth c nL G b Q n lv (.ref x :: st) S cells slots) : J p l e R s m args below meth c nL G b Q pc lv (.ref a :: st) S cells slots := 
  r_get (T := TX8) (Cn := RX8) C (by rw [hK]; decide) (ent_8 hK) rfl 11 (by decide) inb_8 (show (Cond.fieldLink RX8 42 RX8 "left" "[I").before args s = true from (C.w (mem_tb (mem_tbl 761 (by decide +kernel)) (by decide +kernel)))) (fun _ h => h) rfl d hn (by rw [hx]; exact kk)
theorem gX8_45 (C : Cx p l s m args meth c cc nL RX8 ret G b) {n a : Nat} {x : Nat} (hK : sK S a = 8) (hx : fR S 812 a = some x) (d : decode cc pc = .ok (.getfield 45, 3)) (hn : pc + 3 = n) (kk : J p l e R s m args below meth c nL G b Q n lv (.ref x :: st) S cells slots) : J p l e R s m args below meth c nL G b Q pc lv (.ref a :: st) S cells slots := 
  r_get (T := TX8) (Cn := RX8) C (by rw [hK]; decide) (ent_8 hK) rfl 12 (by decide) inb_8 (show (Cond.fieldLink RX8 45 RX8 "right" "[I").before args s = true from (C.w (mem_tb (mem_tbl 762 (by decide +kernel)) (by decide +kernel)))) (fun _ h => h) rfl d hn (by rw [hx]; exact kk)
theorem gX8_48 (C : Cx p l s m args meth c cc nL RX8 ret G b) {n a : Nat} {x : Nat} (hK : sK S a = 8) (hx : fR S 813 a = some x) (d : decode cc pc = .ok (.getfield 48, 3)) (hn : pc + 3 = n) (kk : J p l e R s m args below meth c nL G b Q n lv (.ref x :: st) S cells slots) : J p l e R s m args below meth c nL G b Q pc lv (.ref a :: st) S cells slots := 
  r_get (T := TX8) (Cn := RX8) C (by rw [hK]; decide) (ent_8 hK) rfl 13 (by decide) inb_8 (show (Cond.fieldLink RX8 48 RX8 "isHalf" "[Z").before args s = true from (C.w (mem_tb (mem_tbl 763 (by decide +kernel)) (by decide +kernel)))) (fun _ h => h) rfl d hn (by rw [hx]; exact kk)
theorem gX8_51 (C : Cx p l s m args meth c cc nL RX8 ret G b) {n a : Nat} {x : Nat} (hK : sK S a = 8) (hx : fR S 814 a = some x) (d : decode cc pc = .ok (.getfield 51, 3)) (hn : pc + 3 = n) (kk : J p l e R s m args below meth c nL G b Q n lv (.ref x :: st) S cells slots) : J p l e R s m args below meth c nL G b Q pc lv (.ref a :: st) S cells slots := 
  r_get (T := TX8) (Cn := RX8) C (by rw [hK]; decide) (ent_8 hK) rfl 14 (by decide) inb_8 (show (Cond.fieldLink RX8 51 RX8 "half" "[I").before args s = true from (C.w (mem_tb (mem_tbl 764 (by decide +kernel)) (by decide +kernel)))) (fun _ h => h) rfl d hn (by rw [hx]; exact kk)
theorem gX8_54 (C : Cx p l s m args meth c cc nL RX8 ret G b) {n a : Nat} {x : Nat} (hK : sK S a = 8) (hx : fR S 815 a = some x) (d : decode cc pc = .ok (.getfield 54, 3)) (hn : pc + 3 = n) (kk : J p l e R s m args below meth c nL G b Q n lv (.ref x :: st) S cells slots) : J p l e R s m args below meth c nL G b Q pc lv (.ref a :: st) S cells slots := 
  r_get (T := TX8) (Cn := RX8) C (by rw [hK]; decide) (ent_8 hK) rfl 15 (by decide) inb_8 (show (Cond.fieldLink RX8 54 RX8 "next" "[I").before args s = true from (C.w (mem_tb (mem_tbl 765 (by decide +kernel)) (by decide +kernel)))) (fun _ h => h) rfl d hn (by rw [hx]; exact kk)
theorem gX8_57 (C : Cx p l s m args meth c cc nL RX8 ret G b) {n a : Nat} {x : Nat} (hK : sK S a = 8) (hx : fR S 816 a = some x) (d : decode cc pc = .ok (.getfield 57, 3)) (hn : pc + 3 = n) (kk : J p l e R s m args below meth c nL G b Q n lv (.ref x :: st) S cells slots) : J p l e R s m args below meth c nL G b Q pc lv (.ref a :: st) S cells slots := 
  r_get (T := TX8) (Cn := RX8) C (by rw [hK]; decide) (ent_8 hK) rfl 16 (by decide) inb_8 (show (Cond.fieldLink RX8 57 RX8 "lastLeft" "[I").before args s = true from (C.w (mem_tb (mem_tbl 766 (by decide +kernel)) (by decide +kernel)))) (fun _ h => h) rfl d hn (by rw [hx]; exact kk)
theorem gX8_60 (C : Cx p l s m args meth c cc nL RX8 ret G b) {n a : Nat} {x : Nat} (hK : sK S a = 8) (hx : fR S 817 a = some x) (d : decode cc pc = .ok (.getfield 60, 3)) (hn : pc + 3 = n) (kk : J p l e R s m args below meth c nL G b Q n lv (.ref x :: st) S cells slots) : J p l e R s m args below meth c nL G b Q pc lv (.ref a :: st) S cells slots := 
  r_get (T := TX8) (Cn := RX8) C (by rw [hK]; decide) (ent_8 hK) rfl 17 (by decide) inb_8 (show (Cond.fieldLink RX8 60 RX8 "lastRight" "[I").before args s = true from (C.w (mem_tb (mem_tbl 767 (by decide +kernel)) (by decide +kernel)))) (fun _ h => h) rfl d hn (by rw [hx]; exact kk)
theorem gX8_63 (C : Cx p l s m args meth c cc nL RX8 ret G b) {n a : Nat} {x : Nat} (hK : sK S a = 8) (hx : fR S 818 a = some x) (d : decode cc pc = .ok (.getfield 63, 3)) (hn : pc + 3 = n) (kk : J p l e R s m args below meth c nL G b Q n lv (.ref x :: st) S cells slots) : J p l e R s m args below meth c nL G b Q pc lv (.ref a :: st) S cells slots := 
  r_get (T := TX8) (Cn := RX8) C (by rw [hK]; decide) (ent_8 hK) rfl 18 (by decide) inb_8 (show (Cond.fieldLink RX8 63 RX8 "out" "[I").before args s = true from (C.w (mem_tb (mem_tbl 768 (by decide +kernel)) (by decide +kernel)))) (fun _ h => h) rfl d hn (by rw [hx]; exact kk)
theorem gX8_66 (C : Cx p l s m args meth c cc nL RX8 ret G b) {n a : Nat} {x : Nat} (hK : sK S a = 8) (hx : fR S 819 a = some x) (d : decode cc pc = .ok (.getfield 66, 3)) (hn : pc + 3 = n) (kk : J p l e R s m args below meth c nL G b Q n lv (.ref x :: st) S cells slots) : J p l e R s m args below meth c nL G b Q pc lv (.ref a :: st) S cells slots := 
  r_get (T := TX8) (Cn := RX8) C (by rw [hK]; decide) (ent_8 hK) rfl 19 (by decide) inb_8 (show (Cond.fieldLink RX8 66 RX8 "levels" "[D").before args s = true from (C.w (mem_tb (mem_tbl 769 (by decide +kernel)) (by decide +kernel)))) (fun _ h => h) rfl d hn (by rw [hx]; exact kk)
theorem gX8_70 (C : Cx p l s m args meth c cc nL RX8 ret G b) {n a : Nat} {x : Nat} (hK : sK S a = 8) (hx : fR S 820 a = some x) (d : decode cc pc = .ok (.getfield 70, 3)) (hn : pc + 3 = n) (kk : J p l e R s m args below meth c nL G b Q n lv (.ref x :: st) S cells slots) : J p l e R s m args below meth c nL G b Q pc lv (.ref a :: st) S cells slots := 
  r_get (T := TX8) (Cn := RX8) C (by rw [hK]; decide) (ent_8 hK) rfl 20 (by decide) inb_8 (show (Cond.fieldLink RX8 70 RX8 "reckoned" "[I").before args s = true from (C.w (mem_tb (mem_tbl 770 (by decide +kernel)) (by decide +kernel)))) (fun _ h => h) rfl d hn (by rw [hx]; exact kk)
theorem gX8_73 (C : Cx p l s m args meth c cc nL RX8 ret G b) {n a : Nat} {x : Nat} (hK : sK S a = 8) (hx : fR S 821 a = some x) (d : decode cc pc = .ok (.getfield 73, 3)) (hn : pc + 3 = n) (kk : J p l e R s m args below meth c nL G b Q n lv (.ref x :: st) S cells slots) : J p l e R s m args below meth c nL G b Q pc lv (.ref a :: st) S cells slots := 
  r_get (T := TX8) (Cn := RX8) C (by rw [hK]; decide) (ent_8 hK) rfl 21 (by decide) inb_8 (show (Cond.fieldLink RX8 73 RX8 "ready" "[I").before args s = true from (C.w (mem_tb (mem_tbl 771 (by decide +kernel)) (by decide +kernel)))) (fun _ h => h) rfl d hn (by rw [hx]; exact kk)
theorem gX8_76 (C : Cx p l s m args meth c cc nL RX8 ret G b) {n a : Nat} {x : Nat} (hK : sK S a = 8) (hx : fR S 822 a = some x) (d : decode cc pc = .ok (.getfield 76, 3)) (hn : pc + 3 = n) (kk : J p l e R s m args below meth c nL G b Q n lv (.ref x :: st) S cells slots) : J p l e R s m args below meth c nL G b Q pc lv (.ref a :: st) S cells slots := 
  r_get (T := TX8) (Cn := RX8) C (by rw [hK]; decide) (ent_8 hK) rfl 22 (by decide) inb_8 (show (Cond.fieldLink RX8 76 RX8 "readyAt" "[I").before args s = true from (C.w (mem_tb (mem_tbl 772 (by decide +kernel)) (by decide +kernel)))) (fun _ h => h) rfl d hn (by rw [hx]; exact kk)
theorem gX8_79 (C : Cx p l s m args meth c cc nL RX8 ret G b) {n a : Nat} {x : Nat} (hK : sK S a = 8) (hx : fR S 823 a = some x) (d : decode cc pc = .ok (.getfield 79, 3)) (hn : pc + 3 = n) (kk : J p l e R s m args below meth c nL G b Q n lv (.ref x :: st) S cells slots) : J p l e R s m args below meth c nL G b Q pc lv (.ref a :: st) S cells slots := 
  r_get (T := TX8) (Cn := RX8) C (by rw [hK]; decide) (ent_8 hK) rfl 23 (by decide) inb_8 (show (Cond.fieldLink RX8 79 RX8 "readWholly" "[I").before args s = true from (C.w (mem_tb (mem_tbl 773 (by decide +kernel)) (by decide +kernel)))) (fun _ h => h) rfl d hn (by rw [hx]; exact kk)
theorem gX8_82 (C : Cx p l s m args meth c cc nL RX8 ret G b) {n a : Nat} {x : Nat} (hK : sK S a = 8) (hx : fR S 825 a = some x) (d : decode cc pc = .ok (.getfield 82, 3)) (hn : pc + 3 = n) (kk : J p l e R s m args below meth c nL G b Q n lv (.ref x :: st) S cells slots) : J p l e R s m args below meth c nL G b Q pc lv (.ref a :: st) S cells slots := 
  r_get (T := TX8) (Cn := RX8) C (by rw [hK]; decide) (ent_8 hK) rfl 25 (by decide) inb_8 (show (Cond.fieldLink RX8 82 RX8 "readyLeft" "[I").before args s = true from (C.w (mem_tb (mem_tbl 775 (by decide +kernel)) (by decide +kernel)))) (fun _ h => h) rfl d hn (by rw [hx]; exact kk)
theorem gX8_85 (C : Cx p l s m args meth c cc nL RX8 ret G b) {n a : Nat} {x : Nat} (hK : sK S a = 8) (hx : fR S 826 a = some x) (d : decode cc pc = .ok (.getfield 85, 3)) (hn : pc + 3 = n) (kk : J p l e R s m args below meth c nL G b Q n lv (.ref x :: st) S cells slots) : J p l e R s m args below meth c nL G b Q pc lv (.ref a :: st) S cells slots := 
  r_get (T := TX8) (Cn := RX8) C (by rw [hK]; decide) (ent_8 hK) rfl 26 (by decide) inb_8 (show (Cond.fieldLink RX8 85 RX8 "readyRight" "[I").before args s = true from (C.w (mem_tb (mem_tbl 776 (by decide +kernel)) (by decide +kernel)))) (fun _ h => h) rfl d hn (by rw [hx]; exact kk)
theorem gX8_88 (C : Cx p l s m args meth c cc nL RX8 ret G b) {n a : Nat} {x : Nat} (hK : sK S a = 8) (hx : fR S 827 a = some x) (d : decode cc pc = .ok (.getfield 88, 3)) (hn : pc + 3 = n) (kk : J p l e R s m args below meth c nL G b Q n lv (.ref x :: st) S cells slots) : J p l e R s m args below meth c nL G b Q pc lv (.ref a :: st) S cells slots := 
  r_get (T := TX8) (Cn := RX8) C (by rw [hK]; decide) (ent_8 hK) rfl 27 (by decide) inb_8 (show (Cond.fieldLink RX8 88 RX8 "readyOut" "[I").before args s = true from (C.w (mem_tb (mem_tbl 777 (by decide +kernel)) (by decide +kernel)))) (fun _ h => h) rfl d hn (by rw [hx]; exact kk)
theorem gX8_91 (C : Cx p l s m args meth c cc nL RX8 ret G b) {n a : Nat} {x : Nat} (hK : sK S a = 8) (hx : fR S 828 a = some x) (d : decode cc pc = .ok (.getfield 91, 3)) (hn : pc + 3 = n) (kk : J p l e R s m args below meth c nL G b Q n lv (.ref x :: st) S cells slots) : J p l e R s m args below meth c nL G b Q pc lv (.ref a :: st) S cells slots := 
  r_get (T := TX8) (Cn := RX8) C (by rw [hK]; decide) (ent_8 hK) rfl 28 (by decide) inb_8 (show (Cond.fieldLink RX8 91 RX8 "playedLeft" "[I").before args s = true from (C.w (mem_tb (mem_tbl 778 (by decide +kernel)) (by decide +kernel)))) (fun _ h => h) rfl d hn (by rw [hx]; exact kk)
theorem gX8_94 (C : Cx p l s m args meth c cc nL RX8 ret G b) {n a : Nat} {x : Nat} (hK : sK S a = 8) (hx : fR S 829 a = some x) (d : decode cc pc = .ok (.getfield 94, 3)) (hn : pc + 3 = n) (kk : J p l e R s m args below meth c nL G b Q n lv (.ref x :: st) S cells slots) : J p l e R s m args below meth c nL G b Q pc lv (.ref a :: st) S cells slots := 
  r_get (T := TX8) (Cn := RX8) C (by rw [hK]; decide) (ent_8 hK) rfl 29 (by decide) inb_8 (show (Cond.fieldLink RX8 94 RX8 "playedRight" "[I").before args s = true from (C.w (mem_tb (mem_tbl 779 (by decide +kernel)) (by decide +kernel)))) (fun _ h => h) rfl d hn (by rw [hx]; exact kk)
theorem gX8_97 (C : Cx p l s m args meth c cc nL RX8 ret G b) {n a : Nat} {x : Nat} (hK : sK S a = 8) (hx : fR S 830 a = some x) (d : decode cc pc = .ok (.getfield 97, 3)) (hn : pc + 3 = n) (kk : J p l e R s m args below meth c nL G b Q n lv (.ref x :: st) S cells slots) : J p l e R s m args below meth c nL G b Q pc lv (.ref a :: st) S cells slots := 
  r_get (T := TX8) (Cn := RX8) C (by rw [hK]; decide) (ent_8 hK) rfl 30 (by decide) inb_8 (show (Cond.fieldLink RX8 97 RX8 "comingLeft" "[I").before args s = true from (C.w (mem_tb (mem_tbl 780 (by decide +kernel)) (by decide +kernel)))) (fun _ h => h) rfl d hn (by rw [hx]; exact kk)
theorem gX8_100 (C : Cx p l s m args meth c cc nL RX8 ret G b) {n a : Nat} {x : Nat} (hK : sK S a = 8) (hx : fR S 831 a = some x) (d : decode cc pc = .ok (.getfield 100, 3)) (hn : pc + 3 = n) (kk : J p l e R s m args below meth c nL G b Q n lv (.ref x :: st) S cells slots) : J p l e R s m args below meth c nL G b Q pc lv (.ref a :: st) S cells slots := 
  r_get (T := TX8) (Cn := RX8) C (by rw [hK]; decide) (ent_8 hK) rfl 31 (by decide) inb_8 (show (Cond.fieldLink RX8 100 RX8 "comingRight" "[I").before args s = true from (C.w (mem_tb (mem_tbl 781 (by decide +kernel)) (by decide +kernel)))) (fun _ h => h) rfl d hn (by rw [hx]; exact kk)
theorem gX8_103 (C : Cx p l s m args meth c cc nL RX8 ret G b) {n a : Nat} (hK : sK S a = 8) (d : decode cc pc = .ok (.getfield 103, 3)) (hn : pc + 3 = n) (kk : J p l e R s m args below meth c nL G b Q n lv (.int (fI S 832 a) :: st) S cells slots) : J p l e R s m args below meth c nL G b Q pc lv (.ref a :: st) S cells slots := 
  r_get (T := TX8) (Cn := RX8) C (by rw [hK]; decide) (ent_8 hK) rfl 32 (by decide) inb_8 (show (Cond.fieldLink RX8 103 RX8 "limits" "Z").before args s = true from (C.w (mem_tb (mem_tbl 782 (by decide +kernel)) (by decide +kernel)))) (fun _ h => h) rfl d hn kk
theorem gX8_107 (C : Cx p l s m args meth c cc nL RX8 ret G b) {n a : Nat} (hK : sK S a = 8) (d : decode cc pc = .ok (.getfield 107, 3)) (hn : pc + 3 = n) (kk : J p l e R s m args below meth c nL G b Q n lv (.int (fI S 833 a) :: st) S cells slots) : J p l e R s m args below meth c nL G b Q pc lv (.ref a :: st) S cells slots := 
  r_get (T := TX8) (Cn := RX8) C (by rw [hK]; decide) (ent_8 hK) rfl 33 (by decide) inb_8 (show (Cond.fieldLink RX8 107 RX8 "value" "I").before args s = true from (C.w (mem_tb (mem_tbl 783 (by decide +kernel)) (by decide +kernel)))) (fun _ h => h) rfl d hn kk
theorem gX8_111 (C : Cx p l s m args meth c cc nL RX8 ret G b) {n a : Nat} {x : Nat} (hK : sK S a = 8) (hx : fR S 836 a = some x) (d : decode cc pc = .ok (.getfield 111, 3)) (hn : pc + 3 = n) (kk : J p l e R s m args below meth c nL G b Q n lv (.ref x :: st) S cells slots) : J p l e R s m args below meth c nL G b Q pc lv (.ref a :: st) S cells slots := 
  r_get (T := TX8) (Cn := RX8) C (by rw [hK]; decide) (ent_8 hK) rfl 36 (by decide) inb_8 (show (Cond.fieldLink RX8 111 RX8 "sumLeft" "[I").before args s = true from (C.w (mem_tb (mem_tbl 786 (by decide +kernel)) (by decide +kernel)))) (fun _ h => h) rfl d hn (by rw [hx]; exact kk)
theorem gX8_114 (C : Cx p l s m args meth c cc nL RX8 ret G b) {n a : Nat} {x : Nat} (hK : sK S a = 8) (hx : fR S 837 a = some x) (d : decode cc pc = .ok (.getfield 114, 3)) (hn : pc + 3 = n) (kk : J p l e R s m args below meth c nL G b Q n lv (.ref x :: st) S cells slots) : J p l e R s m args below meth c nL G b Q pc lv (.ref a :: st) S cells slots := 
  r_get (T := TX8) (Cn := RX8) C (by rw [hK]; decide) (ent_8 hK) rfl 37 (by decide) inb_8 (show (Cond.fieldLink RX8 114 RX8 "sumRight" "[I").before args s = true from (C.w (mem_tb (mem_tbl 787 (by decide +kernel)) (by decide +kernel)))) (fun _ h => h) rfl d hn (by rw [hx]; exact kk)
theorem gX8_117 (C : Cx p l s m args meth c cc nL RX8 ret G b) {n a : Nat} {x : Nat} (hK : sK S a = 8) (hx : fR S 838 a = some x) (d : decode cc pc = .ok (.getfield 117, 3)) (hn : pc + 3 = n) (kk : J p l e R s m args below meth c nL G b Q n lv (.ref x :: st) S cells slots) : J p l e R s m args below meth c nL G b Q pc lv (.ref a :: st) S cells slots := 
  r_get (T := TX8) (Cn := RX8) C (by rw [hK]; decide) (ent_8 hK) rfl 38 (by decide) inb_8 (show (Cond.fieldLink RX8 117 RX8 "givesLeft" "[I").before args s = true from (C.w (mem_tb (mem_tbl 788 (by decide +kernel)) (by decide +kernel)))) (fun _ h => h) rfl d hn (by rw [hx]; exact kk)
theorem gX8_120 (C : Cx p l s m args meth c cc nL RX8 ret G b) {n a : Nat} {x : Nat} (hK : sK S a = 8) (hx : fR S 839 a = some x) (d : decode cc pc = .ok (.getfield 120, 3)) (hn : pc + 3 = n) (kk : J p l e R s m args below meth c nL G b Q n lv (.ref x :: st) S cells slots) : J p l e R s m args below meth c nL G b Q pc lv (.ref a :: st) S cells slots := 
  r_get (T := TX8) (Cn := RX8) C (by rw [hK]; decide) (ent_8 hK) rfl 39 (by decide) inb_8 (show (Cond.fieldLink RX8 120 RX8 "givesRight" "[I").before args s = true from (C.w (mem_tb (mem_tbl 789 (by decide +kernel)) (by decide +kernel)))) (fun _ h => h) rfl d hn (by rw [hx]; exact kk)
theorem gX8_127 (C : Cx p l s m args meth c cc nL RX8 ret G b) {n a : Nat} (hK : sK S a = 8) (d : decode cc pc = .ok (.getfield 127, 3)) (hn : pc + 3 = n) (kk : J p l e R s m args below meth c nL G b Q n lv (.int (fI S 800 a) :: st) S cells slots) : J p l e R s m args below meth c nL G b Q pc lv (.ref a :: st) S cells slots := 
  r_get (T := TX8) (Cn := RX8) C (by rw [hK]; decide) (ent_8 hK) rfl 0 (by decide) inb_8 (show (Cond.fieldLink RX8 127 RX8 "fault" "I").before args s = true from (C.w (mem_tb (mem_tbl 750 (by decide +kernel)) (by decide +kernel)))) (fun _ h => h) rfl d hn kk
theorem gX8_215 (C : Cx p l s m args meth c cc nL RX8 ret G b) {n a : Nat} (hK : sK S a = 8) (d : decode cc pc = .ok (.getfield 215, 3)) (hn : pc + 3 = n) (kk : J p l e R s m args below meth c nL G b Q n lv (.int (fI S 835 a) :: st) S cells slots) : J p l e R s m args below meth c nL G b Q pc lv (.ref a :: st) S cells slots := 
  r_get (T := TX8) (Cn := RX8) C (by rw [hK]; decide) (ent_8 hK) rfl 35 (by decide) inb_8 (show (Cond.fieldLink RX8 215 RX8 "clipped" "I").before args s = true from (C.w (mem_tb (mem_tbl 785 (by decide +kernel)) (by decide +kernel)))) (fun _ h => h) rfl d hn kk
theorem gX8_218 (C : Cx p l s m args meth c cc nL RX8 ret G b) {n a : Nat} (hK : sK S a = 8) (d : decode cc pc = .ok (.getfield 218, 3)) (hn : pc + 3 = n) (kk : J p l e R s m args below meth c nL G b Q n lv (.int (fI S 834 a) :: st) S cells slots) : J p l e R s m args below meth c nL G b Q pc lv (.ref a :: st) S cells slots := 
  r_get (T := TX8) (Cn := RX8) C (by rw [hK]; decide) (ent_8 hK) rfl 34 (by decide) inb_8 (show (Cond.fieldLink RX8 218 RX8 "made" "I").before args s = true from (C.w (mem_tb (mem_tbl 784 (by decide +kernel)) (by decide +kernel)))) (fun _ h => h) rfl d hn kk
theorem gX8_229 (C : Cx p l s m args meth c cc nL RX8 ret G b) {n a : Nat} (hK : sK S a = 8) (d : decode cc pc = .ok (.getfield 229, 3)) (hn : pc + 3 = n) (kk : J p l e R s m args below meth c nL G b Q n lv (.int (fI S 824 a) :: st) S cells slots) : J p l e R s m args below meth c nL G b Q pc lv (.ref a :: st) S cells slots := 
  r_get (T := TX8) (Cn := RX8) C (by rw [hK]; decide) (ent_8 hK) rfl 24 (by decide) inb_8 (show (Cond.fieldLink RX8 229 RX8 "readyPeriods" "I").before args s = true from (C.w (mem_tb (mem_tbl 774 (by decide +kernel)) (by decide +kernel)))) (fun _ h => h) rfl d hn kk
theorem sX7_10 (C : Cx p l s m args meth c cc nL RX7 ret G b) {n a : Nat} {v : Nat} (hi : meth.name = "<init>") (hK : sK S a = 7) (d : decode cc pc = .ok (.putfield 10, 3)) (hn : pc + 3 = n) (kk : J p l e R s m args below meth c nL G b Q n lv st (uR S 700 a (some v)) cells slots) : J p l e R s m args below meth c nL G b Q pc lv (.ref v :: .ref a :: st) S cells slots := 
  r_put (S' := uR S 700 a (some v)) (T := TX7) (Cn := RX7) (ty0 := tyX7) (ty := tyX7 0) C (by rw [hK]; decide) (ent_7 hK) rfl 0 (by decide) inb_7 tyX7_ok nmX7 (show (Cond.fieldLink RX7 10 RX7 "taps" "LSoundKernel$Taps;").before args s = true from (C.w (mem_tb (mem_tbl 72 (by decide +kernel)) (by decide +kernel)))) (fun _ h => h) (Or.inr ⟨rfl, hi, rfl⟩) (tyX7_ok 0 (by decide)) rfl rfl (Nat.le_of_ble_eq_true rfl) (by rw [ent_7 (show sK (uR S 700 a (some v)) a = 7 from hK)]; simp [fI_uI, fJ_uI, fR_uI, fI_uJ, fJ_uJ, fR_uJ, fI_uR, fJ_uR, fR_uR, va_rf]) uR_ne (fun _ h => h) d hn kk
theorem sX7_19 (C : Cx p l s m args meth c cc nL RX7 ret G b) {n a : Nat} {v : Nat} (hi : meth.name = "<init>") (hK : sK S a = 7) (d : decode cc pc = .ok (.putfield 19, 3)) (hn : pc + 3 = n) (kk : J p l e R s m args below meth c nL G b Q n lv st (uR S 701 a (some v)) cells slots) : J p l e R s m args below meth c nL G b Q pc lv (.ref v :: .ref a :: st) S cells slots := 
  r_put (S' := uR S 701 a (some v)) (T := TX7) (Cn := RX7) (ty0 := tyX7) (ty := tyX7 1) C (by rw [hK]; decide) (ent_7 hK) rfl 1 (by decide) inb_7 tyX7_ok nmX7 (show (Cond.fieldLink RX7 19 RX7 "limiter" "LSoundKernel$Limiter;").before args s = true from (C.w (mem_tb (mem_tbl 73 (by decide +kernel)) (by decide +kernel)))) (fun _ h => h) (Or.inr ⟨rfl, hi, rfl⟩) (tyX7_ok 1 (by decide)) rfl rfl (Nat.le_of_ble_eq_true rfl) (by rw [ent_7 (show sK (uR S 701 a (some v)) a = 7 from hK)]; simp [fI_uI, fJ_uI, fR_uI, fI_uJ, fJ_uJ, fR_uJ, fI_uR, fJ_uR, fR_uR, va_rf]) uR_ne (fun _ h => h) d hn kk
theorem sX7_25 (C : Cx p l s m args meth c cc nL RX7 ret G b) {n a : Nat} {v : Nat} (hi : meth.name = "<init>") (hK : sK S a = 7) (d : decode cc pc = .ok (.putfield 25, 3)) (hn : pc + 3 = n) (kk : J p l e R s m args below meth c nL G b Q n lv st (uR S 702 a (some v)) cells slots) : J p l e R s m args below meth c nL G b Q pc lv (.ref v :: .ref a :: st) S cells slots := 
  r_put (S' := uR S 702 a (some v)) (T := TX7) (Cn := RX7) (ty0 := tyX7) (ty := tyX7 2) C (by rw [hK]; decide) (ent_7 hK) rfl 2 (by decide) inb_7 tyX7_ok nmX7 (show (Cond.fieldLink RX7 25 RX7 "clients" "[LSoundKernel$Client;").before args s = true from (C.w (mem_tb (mem_tbl 74 (by decide +kernel)) (by decide +kernel)))) (fun _ h => h) (Or.inr ⟨rfl, hi, rfl⟩) (tyX7_ok 2 (by decide)) rfl rfl (Nat.le_of_ble_eq_true rfl) (by rw [ent_7 (show sK (uR S 702 a (some v)) a = 7 from hK)]; simp [fI_uI, fJ_uI, fR_uI, fI_uJ, fJ_uJ, fR_uJ, fI_uR, fJ_uR, fR_uR, va_rf]) uR_ne (fun _ h => h) d hn kk
theorem sX7_31 (C : Cx p l s m args meth c cc nL RX7 ret G b) {n a : Nat} {v : Nat} (hi : meth.name = "<init>") (hK : sK S a = 7) (d : decode cc pc = .ok (.putfield 31, 3)) (hn : pc + 3 = n) (kk : J p l e R s m args below meth c nL G b Q n lv st (uR S 703 a (some v)) cells slots) : J p l e R s m args below meth c nL G b Q pc lv (.ref v :: .ref a :: st) S cells slots := 
  r_put (S' := uR S 703 a (some v)) (T := TX7) (Cn := RX7) (ty0 := tyX7) (ty := tyX7 3) C (by rw [hK]; decide) (ent_7 hK) rfl 3 (by decide) inb_7 tyX7_ok nmX7 (show (Cond.fieldLink RX7 31 RX7 "ready" "[[I").before args s = true from (C.w (mem_tb (mem_tbl 75 (by decide +kernel)) (by decide +kernel)))) (fun _ h => h) (Or.inr ⟨rfl, hi, rfl⟩) (tyX7_ok 3 (by decide)) rfl rfl (Nat.le_of_ble_eq_true rfl) (by rw [ent_7 (show sK (uR S 703 a (some v)) a = 7 from hK)]; simp [fI_uI, fJ_uI, fR_uI, fI_uJ, fJ_uJ, fR_uJ, fI_uR, fJ_uR, fR_uR, va_rf]) uR_ne (fun _ h => h) d hn kk
theorem sX7_34 (C : Cx p l s m args meth c cc nL RX7 ret G b) {n a : Nat} {v : Int32} (hK : sK S a = 7) (d : decode cc pc = .ok (.putfield 34, 3)) (hn : pc + 3 = n) (kk : J p l e R s m args below meth c nL G b Q n lv st (uI S 704 a v) cells slots) : J p l e R s m args below meth c nL G b Q pc lv (.int v :: .ref a :: st) S cells slots := 
  r_put (S' := uI S 704 a v) (T := TX7) (Cn := RX7) (ty0 := tyX7) (ty := tyX7 4) C (by rw [hK]; decide) (ent_7 hK) rfl 4 (by decide) inb_7 tyX7_ok nmX7 (show (Cond.fieldLink RX7 34 RX7 "oldestReady" "I").before args s = true from (C.w (mem_tb (mem_tbl 76 (by decide +kernel)) (by decide +kernel)))) (fun _ h => h) (Or.inl rfl) (tyX7_ok 4 (by decide)) rfl rfl (Nat.le_of_ble_eq_true rfl) (by rw [ent_7 (show sK (uI S 704 a v) a = 7 from hK)]; simp [fI_uI, fJ_uI, fR_uI, fI_uJ, fJ_uJ, fR_uJ, fI_uR, fJ_uR, fR_uR, va_rf]) uI_ne (fun _ h => h) d hn kk
theorem sX7_38 (C : Cx p l s m args meth c cc nL RX7 ret G b) {n a : Nat} {v : Int32} (hK : sK S a = 7) (d : decode cc pc = .ok (.putfield 38, 3)) (hn : pc + 3 = n) (kk : J p l e R s m args below meth c nL G b Q n lv st (uI S 705 a v) cells slots) : J p l e R s m args below meth c nL G b Q pc lv (.int v :: .ref a :: st) S cells slots := 
  r_put (S' := uI S 705 a v) (T := TX7) (Cn := RX7) (ty0 := tyX7) (ty := tyX7 5) C (by rw [hK]; decide) (ent_7 hK) rfl 5 (by decide) inb_7 tyX7_ok nmX7 (show (Cond.fieldLink RX7 38 RX7 "readyPeriods" "I").before args s = true from (C.w (mem_tb (mem_tbl 77 (by decide +kernel)) (by decide +kernel)))) (fun _ h => h) (Or.inl rfl) (tyX7_ok 5 (by decide)) rfl rfl (Nat.le_of_ble_eq_true rfl) (by rw [ent_7 (show sK (uI S 705 a v) a = 7 from hK)]; simp [fI_uI, fJ_uI, fR_uI, fI_uJ, fJ_uJ, fR_uJ, fI_uR, fJ_uR, fR_uR, va_rf]) uI_ne (fun _ h => h) d hn kk
theorem sX7_41 (C : Cx p l s m args meth c cc nL RX7 ret G b) {n a : Nat} {v : Nat} (hi : meth.name = "<init>") (hK : sK S a = 7) (d : decode cc pc = .ok (.putfield 41, 3)) (hn : pc + 3 = n) (kk : J p l e R s m args below meth c nL G b Q n lv st (uR S 706 a (some v)) cells slots) : J p l e R s m args below meth c nL G b Q pc lv (.ref v :: .ref a :: st) S cells slots := 
  r_put (S' := uR S 706 a (some v)) (T := TX7) (Cn := RX7) (ty0 := tyX7) (ty := tyX7 6) C (by rw [hK]; decide) (ent_7 hK) rfl 6 (by decide) inb_7 tyX7_ok nmX7 (show (Cond.fieldLink RX7 41 RX7 "past" "[[I").before args s = true from (C.w (mem_tb (mem_tbl 78 (by decide +kernel)) (by decide +kernel)))) (fun _ h => h) (Or.inr ⟨rfl, hi, rfl⟩) (tyX7_ok 6 (by decide)) rfl rfl (Nat.le_of_ble_eq_true rfl) (by rw [ent_7 (show sK (uR S 706 a (some v)) a = 7 from hK)]; simp [fI_uI, fJ_uI, fR_uI, fI_uJ, fJ_uJ, fR_uJ, fI_uR, fJ_uR, fR_uR, va_rf]) uR_ne (fun _ h => h) d hn kk
theorem sX7_44 (C : Cx p l s m args meth c cc nL RX7 ret G b) {n a : Nat} {v : Int32} (hK : sK S a = 7) (d : decode cc pc = .ok (.putfield 44, 3)) (hn : pc + 3 = n) (kk : J p l e R s m args below meth c nL G b Q n lv st (uI S 707 a v) cells slots) : J p l e R s m args below meth c nL G b Q pc lv (.int v :: .ref a :: st) S cells slots := 
  r_put (S' := uI S 707 a v) (T := TX7) (Cn := RX7) (ty0 := tyX7) (ty := tyX7 7) C (by rw [hK]; decide) (ent_7 hK) rfl 7 (by decide) inb_7 tyX7_ok nmX7 (show (Cond.fieldLink RX7 44 RX7 "newestPast" "I").before args s = true from (C.w (mem_tb (mem_tbl 79 (by decide +kernel)) (by decide +kernel)))) (fun _ h => h) (Or.inl rfl) (tyX7_ok 7 (by decide)) rfl rfl (Nat.le_of_ble_eq_true rfl) (by rw [ent_7 (show sK (uI S 707 a v) a = 7 from hK)]; simp [fI_uI, fJ_uI, fR_uI, fI_uJ, fJ_uJ, fR_uJ, fI_uR, fJ_uR, fR_uR, va_rf]) uI_ne (fun _ h => h) d hn kk
theorem sX7_47 (C : Cx p l s m args meth c cc nL RX7 ret G b) {n a : Nat} {v : Nat} (hi : meth.name = "<init>") (hK : sK S a = 7) (d : decode cc pc = .ok (.putfield 47, 3)) (hn : pc + 3 = n) (kk : J p l e R s m args below meth c nL G b Q n lv st (uR S 708 a (some v)) cells slots) : J p l e R s m args below meth c nL G b Q pc lv (.ref v :: .ref a :: st) S cells slots := 
  r_put (S' := uR S 708 a (some v)) (T := TX7) (Cn := RX7) (ty0 := tyX7) (ty := tyX7 8) C (by rw [hK]; decide) (ent_7 hK) rfl 8 (by decide) inb_7 tyX7_ok nmX7 (show (Cond.fieldLink RX7 47 RX7 "incoming" "[I").before args s = true from (C.w (mem_tb (mem_tbl 80 (by decide +kernel)) (by decide +kernel)))) (fun _ h => h) (Or.inr ⟨rfl, hi, rfl⟩) (tyX7_ok 8 (by decide)) rfl rfl (Nat.le_of_ble_eq_true rfl) (by rw [ent_7 (show sK (uR S 708 a (some v)) a = 7 from hK)]; simp [fI_uI, fJ_uI, fR_uI, fI_uJ, fJ_uJ, fR_uJ, fI_uR, fJ_uR, fR_uR, va_rf]) uR_ne (fun _ h => h) d hn kk
theorem sX7_51 (C : Cx p l s m args meth c cc nL RX7 ret G b) {n a : Nat} {v : Nat} (hi : meth.name = "<init>") (hK : sK S a = 7) (d : decode cc pc = .ok (.putfield 51, 3)) (hn : pc + 3 = n) (kk : J p l e R s m args below meth c nL G b Q n lv st (uR S 709 a (some v)) cells slots) : J p l e R s m args below meth c nL G b Q pc lv (.ref v :: .ref a :: st) S cells slots := 
  r_put (S' := uR S 709 a (some v)) (T := TX7) (Cn := RX7) (ty0 := tyX7) (ty := tyX7 9) C (by rw [hK]; decide) (ent_7 hK) rfl 9 (by decide) inb_7 tyX7_ok nmX7 (show (Cond.fieldLink RX7 51 RX7 "given" "[I").before args s = true from (C.w (mem_tb (mem_tbl 81 (by decide +kernel)) (by decide +kernel)))) (fun _ h => h) (Or.inr ⟨rfl, hi, rfl⟩) (tyX7_ok 9 (by decide)) rfl rfl (Nat.le_of_ble_eq_true rfl) (by rw [ent_7 (show sK (uR S 709 a (some v)) a = 7 from hK)]; simp [fI_uI, fJ_uI, fR_uI, fI_uJ, fJ_uJ, fR_uJ, fI_uR, fJ_uR, fR_uR, va_rf]) uR_ne (fun _ h => h) d hn kk
theorem sX7_54 (C : Cx p l s m args meth c cc nL RX7 ret G b) {n a : Nat} {v : Nat} (hi : meth.name = "<init>") (hK : sK S a = 7) (d : decode cc pc = .ok (.putfield 54, 3)) (hn : pc + 3 = n) (kk : J p l e R s m args below meth c nL G b Q n lv st (uR S 710 a (some v)) cells slots) : J p l e R s m args below meth c nL G b Q pc lv (.ref v :: .ref a :: st) S cells slots := 
  r_put (S' := uR S 710 a (some v)) (T := TX7) (Cn := RX7) (ty0 := tyX7) (ty := tyX7 10) C (by rw [hK]; decide) (ent_7 hK) rfl 10 (by decide) inb_7 tyX7_ok nmX7 (show (Cond.fieldLink RX7 54 RX7 "sums" "[I").before args s = true from (C.w (mem_tb (mem_tbl 82 (by decide +kernel)) (by decide +kernel)))) (fun _ h => h) (Or.inr ⟨rfl, hi, rfl⟩) (tyX7_ok 10 (by decide)) rfl rfl (Nat.le_of_ble_eq_true rfl) (by rw [ent_7 (show sK (uR S 710 a (some v)) a = 7 from hK)]; simp [fI_uI, fJ_uI, fR_uI, fI_uJ, fJ_uJ, fR_uJ, fI_uR, fJ_uR, fR_uR, va_rf]) uR_ne (fun _ h => h) d hn kk
theorem sX7_97 (C : Cx p l s m args meth c cc nL RX7 ret G b) {n a : Nat} {v : Int32} (hK : sK S a = 5) (d : decode cc pc = .ok (.putfield 97, 3)) (hn : pc + 3 = n) (kk : J p l e R s m args below meth c nL G b Q n lv st (uI S 508 a v) cells slots) : J p l e R s m args below meth c nL G b Q pc lv (.int v :: .ref a :: st) S cells slots := 
  r_putN (S' := uI S 508 a v) (T := TX5) (Cn := RX5) (ty0 := tyX5) (ty := tyX5 8) C (by rw [hK]; decide) (ent_5 hK) rfl 8 (by decide) inb_5 tyX5_ok nmX5 (show (Cond.fieldLinkNest RX7 97 RX5 "loudness" "I" RX7).before args s = true from (C.bw (mem_bw (mem_tbl 423 (by decide +kernel)) rfl))) (fun _ h => h) rfl (tyX5_ok 8 (by decide)) rfl rfl (Nat.le_of_ble_eq_true rfl) (by rw [ent_5 (show sK (uI S 508 a v) a = 5 from hK)]; simp [fI_uI, fJ_uI, fR_uI, fI_uJ, fJ_uJ, fR_uJ, fI_uR, fJ_uR, fR_uR, va_rf]) uI_ne (fun _ h => h) d hn kk
theorem sX7_100_4 (C : Cx p l s m args meth c cc nL RX7 ret G b) {n a : Nat} {v : Int32} (hK : sK S a = 4) (d : decode cc pc = .ok (.putfield 100, 3)) (hn : pc + 3 = n) (kk : J p l e R s m args below meth c nL G b Q n lv st (uI S 2 a v) cells slots) : J p l e R s m args below meth c nL G b Q pc lv (.int v :: .ref a :: st) S cells slots := 
  r_put (S' := uI S 2 a v) (T := TX4) (Cn := RX4) (ty0 := tyX4) (ty := tyX4 2) C (by rw [hK]; decide) (ent_4 hK) rfl 2 (by decide) inb_4 tyX4_ok nmX4 (show (Cond.fieldLink RX7 100 RX0 "condition" "I").before args s = true from (C.w (mem_tb (mem_tbl 440 (by decide +kernel)) (by decide +kernel)))) (fun _ h => h) (Or.inl rfl) (tyX4_ok 2 (by decide)) rfl rfl (Nat.le_of_ble_eq_true rfl) (by rw [ent_4 (show sK (uI S 2 a v) a = 4 from hK)]; simp [fI_uI, fJ_uI, fR_uI, fI_uJ, fJ_uJ, fR_uJ, fI_uR, fJ_uR, fR_uR, va_rf]) uI_ne (fun _ h => h) d hn kk
theorem sX7_100_5 (C : Cx p l s m args meth c cc nL RX7 ret G b) {n a : Nat} {v : Int32} (hK : sK S a = 5) (d : decode cc pc = .ok (.putfield 100, 3)) (hn : pc + 3 = n) (kk : J p l e R s m args below meth c nL G b Q n lv st (uI S 2 a v) cells slots) : J p l e R s m args below meth c nL G b Q pc lv (.int v :: .ref a :: st) S cells slots := 
  r_put (S' := uI S 2 a v) (T := TX5) (Cn := RX5) (ty0 := tyX5) (ty := tyX5 2) C (by rw [hK]; decide) (ent_5 hK) rfl 2 (by decide) inb_5 tyX5_ok nmX5 (show (Cond.fieldLink RX7 100 RX0 "condition" "I").before args s = true from (C.w (mem_tb (mem_tbl 440 (by decide +kernel)) (by decide +kernel)))) (fun _ h => h) (Or.inl rfl) (tyX5_ok 2 (by decide)) rfl rfl (Nat.le_of_ble_eq_true rfl) (by rw [ent_5 (show sK (uI S 2 a v) a = 5 from hK)]; simp [fI_uI, fJ_uI, fR_uI, fI_uJ, fJ_uJ, fR_uJ, fI_uR, fJ_uR, fR_uR, va_rf]) uI_ne (fun _ h => h) d hn kk
theorem sX7_109 (C : Cx p l s m args meth c cc nL RX7 ret G b) {n a : Nat} {v : Int32} (hK : sK S a = 5) (d : decode cc pc = .ok (.putfield 109, 3)) (hn : pc + 3 = n) (kk : J p l e R s m args below meth c nL G b Q n lv st (uI S 2 a v) cells slots) : J p l e R s m args below meth c nL G b Q pc lv (.int v :: .ref a :: st) S cells slots := 
  r_put (S' := uI S 2 a v) (T := TX5) (Cn := RX5) (ty0 := tyX5) (ty := tyX5 2) C (by rw [hK]; decide) (ent_5 hK) rfl 2 (by decide) inb_5 tyX5_ok nmX5 (show (Cond.fieldLink RX7 109 RX5 "condition" "I").before args s = true from (C.w (mem_tb (mem_tbl 441 (by decide +kernel)) (by decide +kernel)))) (fun x h => u_same (C.w (mem_tb (mem_tbl 439 (by decide +kernel)) (by decide +kernel))) x h) (Or.inl rfl) (tyX5_ok 2 (by decide)) rfl rfl (Nat.le_of_ble_eq_true rfl) (by rw [ent_5 (show sK (uI S 2 a v) a = 5 from hK)]; simp [fI_uI, fJ_uI, fR_uI, fI_uJ, fJ_uJ, fR_uJ, fI_uR, fJ_uR, fR_uR, va_rf]) uI_ne (fun _ h => h) d hn kk
theorem sX7_110 (C : Cx p l s m args meth c cc nL RX7 ret G b) {n a : Nat} {v : Int32} (hK : sK S a = 5) (hz : narrow .boolean (.int v) = .int v) (hz2 : fits .boolean (.int v) = true) (d : decode cc pc = .ok (.putfield 110, 3)) (hn : pc + 3 = n) (kk : J p l e R s m args below meth c nL G b Q n lv st (uI S 4 a v) cells slots) : J p l e R s m args below meth c nL G b Q pc lv (.int v :: .ref a :: st) S cells slots := 
  r_put (S' := uI S 4 a v) (T := TX5) (Cn := RX5) (ty0 := tyX5) (ty := tyX5 4) C (by rw [hK]; decide) (ent_5 hK) rfl 4 (by decide) inb_5 tyX5_ok nmX5 (show (Cond.fieldLink RX7 110 RX5 "half" "Z").before args s = true from (C.w (mem_tb (mem_tbl 455 (by decide +kernel)) (by decide +kernel)))) (fun x h => u_same (C.w (mem_tb (mem_tbl 452 (by decide +kernel)) (by decide +kernel))) x h) (Or.inl rfl) (tyX5_ok 4 (by decide)) hz hz2 (Nat.le_of_ble_eq_true rfl) (by rw [ent_5 (show sK (uI S 4 a v) a = 5 from hK)]; simp [fI_uI, fJ_uI, fR_uI, fI_uJ, fJ_uJ, fR_uJ, fI_uR, fJ_uR, fR_uR, va_rf]) uI_ne (fun _ h => h) d hn kk
theorem sX7_200 (C : Cx p l s m args meth c cc nL RX7 ret G b) {n a : Nat} {v : Int32} (hK : sK S a = 3) (hz : narrow .boolean (.int v) = .int v) (hz2 : fits .boolean (.int v) = true) (d : decode cc pc = .ok (.putfield 200, 3)) (hn : pc + 3 = n) (kk : J p l e R s m args below meth c nL G b Q n lv st (uI S 300 a v) cells slots) : J p l e R s m args below meth c nL G b Q pc lv (.int v :: .ref a :: st) S cells slots := 
  r_putN (S' := uI S 300 a v) (T := TX3) (Cn := RX3) (ty0 := tyX3) (ty := tyX3 0) C (by rw [hK]; decide) (ent_3 hK) rfl 0 (by decide) inb_3 tyX3_ok nmX3 (show (Cond.fieldLinkNest RX7 200 RX3 "on" "Z" RX7).before args s = true from (C.bw (mem_bw (mem_tbl 53 (by decide +kernel)) rfl))) (fun _ h => h) rfl (tyX3_ok 0 (by decide)) hz hz2 (Nat.le_of_ble_eq_true rfl) (by rw [ent_3 (show sK (uI S 300 a v) a = 3 from hK)]; simp [fI_uI, fJ_uI, fR_uI, fI_uJ, fJ_uJ, fR_uJ, fI_uR, fJ_uR, fR_uR, va_rf]) uI_ne (fun _ h => h) d hn kk
theorem sX0_9_4 (C : Cx p l s m args meth c cc nL RX0 ret G b) {n a : Nat} {v : Int32} (hK : sK S a = 4) (d : decode cc pc = .ok (.putfield 9, 3)) (hn : pc + 3 = n) (kk : J p l e R s m args below meth c nL G b Q n lv st (uI S 2 a v) cells slots) : J p l e R s m args below meth c nL G b Q pc lv (.int v :: .ref a :: st) S cells slots := 
  r_put (S' := uI S 2 a v) (T := TX4) (Cn := RX4) (ty0 := tyX4) (ty := tyX4 2) C (by rw [hK]; decide) (ent_4 hK) rfl 2 (by decide) inb_4 tyX4_ok nmX4 (show (Cond.fieldLink RX0 9 RX0 "condition" "I").before args s = true from (C.w (mem_tb (mem_tbl 437 (by decide +kernel)) (by decide +kernel)))) (fun _ h => h) (Or.inl rfl) (tyX4_ok 2 (by decide)) rfl rfl (Nat.le_of_ble_eq_true rfl) (by rw [ent_4 (show sK (uI S 2 a v) a = 4 from hK)]; simp [fI_uI, fJ_uI, fR_uI, fI_uJ, fJ_uJ, fR_uJ, fI_uR, fJ_uR, fR_uR, va_rf]) uI_ne (fun _ h => h) d hn kk
theorem sX0_9_5 (C : Cx p l s m args meth c cc nL RX0 ret G b) {n a : Nat} {v : Int32} (hK : sK S a = 5) (d : decode cc pc = .ok (.putfield 9, 3)) (hn : pc + 3 = n) (kk : J p l e R s m args below meth c nL G b Q n lv st (uI S 2 a v) cells slots) : J p l e R s m args below meth c nL G b Q pc lv (.int v :: .ref a :: st) S cells slots := 
  r_put (S' := uI S 2 a v) (T := TX5) (Cn := RX5) (ty0 := tyX5) (ty := tyX5 2) C (by rw [hK]; decide) (ent_5 hK) rfl 2 (by decide) inb_5 tyX5_ok nmX5 (show (Cond.fieldLink RX0 9 RX0 "condition" "I").before args s = true from (C.w (mem_tb (mem_tbl 437 (by decide +kernel)) (by decide +kernel)))) (fun _ h => h) (Or.inl rfl) (tyX5_ok 2 (by decide)) rfl rfl (Nat.le_of_ble_eq_true rfl) (by rw [ent_5 (show sK (uI S 2 a v) a = 5 from hK)]; simp [fI_uI, fJ_uI, fR_uI, fI_uJ, fJ_uJ, fR_uJ, fI_uR, fJ_uR, fR_uR, va_rf]) uI_ne (fun _ h => h) d hn kk
theorem sX0_15_4 (C : Cx p l s m args meth c cc nL RX0 ret G b) {n a : Nat} {v : Int32} (hK : sK S a = 4) (d : decode cc pc = .ok (.putfield 15, 3)) (hn : pc + 3 = n) (kk : J p l e R s m args below meth c nL G b Q n lv st (uI S 3 a v) cells slots) : J p l e R s m args below meth c nL G b Q pc lv (.int v :: .ref a :: st) S cells slots := 
  r_put (S' := uI S 3 a v) (T := TX4) (Cn := RX4) (ty0 := tyX4) (ty := tyX4 3) C (by rw [hK]; decide) (ent_4 hK) rfl 3 (by decide) inb_4 tyX4_ok nmX4 (show (Cond.fieldLink RX0 15 RX0 "timesLate" "I").before args s = true from (C.w (mem_tb (mem_tbl 444 (by decide +kernel)) (by decide +kernel)))) (fun _ h => h) (Or.inl rfl) (tyX4_ok 3 (by decide)) rfl rfl (Nat.le_of_ble_eq_true rfl) (by rw [ent_4 (show sK (uI S 3 a v) a = 4 from hK)]; simp [fI_uI, fJ_uI, fR_uI, fI_uJ, fJ_uJ, fR_uJ, fI_uR, fJ_uR, fR_uR, va_rf]) uI_ne (fun _ h => h) d hn kk
theorem sX0_15_5 (C : Cx p l s m args meth c cc nL RX0 ret G b) {n a : Nat} {v : Int32} (hK : sK S a = 5) (d : decode cc pc = .ok (.putfield 15, 3)) (hn : pc + 3 = n) (kk : J p l e R s m args below meth c nL G b Q n lv st (uI S 3 a v) cells slots) : J p l e R s m args below meth c nL G b Q pc lv (.int v :: .ref a :: st) S cells slots := 
  r_put (S' := uI S 3 a v) (T := TX5) (Cn := RX5) (ty0 := tyX5) (ty := tyX5 3) C (by rw [hK]; decide) (ent_5 hK) rfl 3 (by decide) inb_5 tyX5_ok nmX5 (show (Cond.fieldLink RX0 15 RX0 "timesLate" "I").before args s = true from (C.w (mem_tb (mem_tbl 444 (by decide +kernel)) (by decide +kernel)))) (fun _ h => h) (Or.inl rfl) (tyX5_ok 3 (by decide)) rfl rfl (Nat.le_of_ble_eq_true rfl) (by rw [ent_5 (show sK (uI S 3 a v) a = 5 from hK)]; simp [fI_uI, fJ_uI, fR_uI, fI_uJ, fJ_uJ, fR_uJ, fI_uR, fJ_uR, fR_uR, va_rf]) uI_ne (fun _ h => h) d hn kk
theorem sX0_18_4 (C : Cx p l s m args meth c cc nL RX0 ret G b) {n a : Nat} {v : Int32} (hK : sK S a = 4) (hz : narrow .boolean (.int v) = .int v) (hz2 : fits .boolean (.int v) = true) (d : decode cc pc = .ok (.putfield 18, 3)) (hn : pc + 3 = n) (kk : J p l e R s m args below meth c nL G b Q n lv st (uI S 4 a v) cells slots) : J p l e R s m args below meth c nL G b Q pc lv (.int v :: .ref a :: st) S cells slots := 
  r_put (S' := uI S 4 a v) (T := TX4) (Cn := RX4) (ty0 := tyX4) (ty := tyX4 4) C (by rw [hK]; decide) (ent_4 hK) rfl 4 (by decide) inb_4 tyX4_ok nmX4 (show (Cond.fieldLink RX0 18 RX0 "half" "Z").before args s = true from (C.w (mem_tb (mem_tbl 450 (by decide +kernel)) (by decide +kernel)))) (fun _ h => h) (Or.inl rfl) (tyX4_ok 4 (by decide)) hz hz2 (Nat.le_of_ble_eq_true rfl) (by rw [ent_4 (show sK (uI S 4 a v) a = 4 from hK)]; simp [fI_uI, fJ_uI, fR_uI, fI_uJ, fJ_uJ, fR_uJ, fI_uR, fJ_uR, fR_uR, va_rf]) uI_ne (fun _ h => h) d hn kk
theorem sX0_18_5 (C : Cx p l s m args meth c cc nL RX0 ret G b) {n a : Nat} {v : Int32} (hK : sK S a = 5) (hz : narrow .boolean (.int v) = .int v) (hz2 : fits .boolean (.int v) = true) (d : decode cc pc = .ok (.putfield 18, 3)) (hn : pc + 3 = n) (kk : J p l e R s m args below meth c nL G b Q n lv st (uI S 4 a v) cells slots) : J p l e R s m args below meth c nL G b Q pc lv (.int v :: .ref a :: st) S cells slots := 
  r_put (S' := uI S 4 a v) (T := TX5) (Cn := RX5) (ty0 := tyX5) (ty := tyX5 4) C (by rw [hK]; decide) (ent_5 hK) rfl 4 (by decide) inb_5 tyX5_ok nmX5 (show (Cond.fieldLink RX0 18 RX0 "half" "Z").before args s = true from (C.w (mem_tb (mem_tbl 450 (by decide +kernel)) (by decide +kernel)))) (fun _ h => h) (Or.inl rfl) (tyX5_ok 4 (by decide)) hz hz2 (Nat.le_of_ble_eq_true rfl) (by rw [ent_5 (show sK (uI S 4 a v) a = 5 from hK)]; simp [fI_uI, fJ_uI, fR_uI, fI_uJ, fJ_uJ, fR_uJ, fI_uR, fJ_uR, fR_uR, va_rf]) uI_ne (fun _ h => h) d hn kk
theorem sX0_22_4 (C : Cx p l s m args meth c cc nL RX0 ret G b) {n a : Nat} {v : Int32} (hi : meth.name = "<init>") (hK : sK S a = 4) (d : decode cc pc = .ok (.putfield 22, 3)) (hn : pc + 3 = n) (kk : J p l e R s m args below meth c nL G b Q n lv st (uI S 0 a v) cells slots) : J p l e R s m args below meth c nL G b Q pc lv (.int v :: .ref a :: st) S cells slots := 
  r_put (S' := uI S 0 a v) (T := TX4) (Cn := RX4) (ty0 := tyX4) (ty := tyX4 0) C (by rw [hK]; decide) (ent_4 hK) rfl 0 (by decide) inb_4 tyX4_ok nmX4 (show (Cond.fieldLink RX0 22 RX0 "channels" "I").before args s = true from (C.w (mem_tb (mem_tbl 431 (by decide +kernel)) (by decide +kernel)))) (fun _ h => h) (Or.inr ⟨rfl, hi, rfl⟩) (tyX4_ok 0 (by decide)) rfl rfl (Nat.le_of_ble_eq_true rfl) (by rw [ent_4 (show sK (uI S 0 a v) a = 4 from hK)]; simp [fI_uI, fJ_uI, fR_uI, fI_uJ, fJ_uJ, fR_uJ, fI_uR, fJ_uR, fR_uR, va_rf]) uI_ne (fun _ h => h) d hn kk
theorem sX0_22_5 (C : Cx p l s m args meth c cc nL RX0 ret G b) {n a : Nat} {v : Int32} (hi : meth.name = "<init>") (hK : sK S a = 5) (d : decode cc pc = .ok (.putfield 22, 3)) (hn : pc + 3 = n) (kk : J p l e R s m args below meth c nL G b Q n lv st (uI S 0 a v) cells slots) : J p l e R s m args below meth c nL G b Q pc lv (.int v :: .ref a :: st) S cells slots := 
  r_put (S' := uI S 0 a v) (T := TX5) (Cn := RX5) (ty0 := tyX5) (ty := tyX5 0) C (by rw [hK]; decide) (ent_5 hK) rfl 0 (by decide) inb_5 tyX5_ok nmX5 (show (Cond.fieldLink RX0 22 RX0 "channels" "I").before args s = true from (C.w (mem_tb (mem_tbl 431 (by decide +kernel)) (by decide +kernel)))) (fun _ h => h) (Or.inr ⟨rfl, hi, rfl⟩) (tyX5_ok 0 (by decide)) rfl rfl (Nat.le_of_ble_eq_true rfl) (by rw [ent_5 (show sK (uI S 0 a v) a = 5 from hK)]; simp [fI_uI, fJ_uI, fR_uI, fI_uJ, fJ_uJ, fR_uJ, fI_uR, fJ_uR, fR_uR, va_rf]) uI_ne (fun _ h => h) d hn kk
theorem sX0_25_4 (C : Cx p l s m args meth c cc nL RX0 ret G b) {n a : Nat} {v : Int32} (hi : meth.name = "<init>") (hK : sK S a = 4) (d : decode cc pc = .ok (.putfield 25, 3)) (hn : pc + 3 = n) (kk : J p l e R s m args below meth c nL G b Q n lv st (uI S 1 a v) cells slots) : J p l e R s m args below meth c nL G b Q pc lv (.int v :: .ref a :: st) S cells slots := 
  r_put (S' := uI S 1 a v) (T := TX4) (Cn := RX4) (ty0 := tyX4) (ty := tyX4 1) C (by rw [hK]; decide) (ent_4 hK) rfl 1 (by decide) inb_4 tyX4_ok nmX4 (show (Cond.fieldLink RX0 25 RX0 "bits" "I").before args s = true from (C.w (mem_tb (mem_tbl 436 (by decide +kernel)) (by decide +kernel)))) (fun _ h => h) (Or.inr ⟨rfl, hi, rfl⟩) (tyX4_ok 1 (by decide)) rfl rfl (Nat.le_of_ble_eq_true rfl) (by rw [ent_4 (show sK (uI S 1 a v) a = 4 from hK)]; simp [fI_uI, fJ_uI, fR_uI, fI_uJ, fJ_uJ, fR_uJ, fI_uR, fJ_uR, fR_uR, va_rf]) uI_ne (fun _ h => h) d hn kk
theorem sX0_25_5 (C : Cx p l s m args meth c cc nL RX0 ret G b) {n a : Nat} {v : Int32} (hi : meth.name = "<init>") (hK : sK S a = 5) (d : decode cc pc = .ok (.putfield 25, 3)) (hn : pc + 3 = n) (kk : J p l e R s m args below meth c nL G b Q n lv st (uI S 1 a v) cells slots) : J p l e R s m args below meth c nL G b Q pc lv (.int v :: .ref a :: st) S cells slots := 
  r_put (S' := uI S 1 a v) (T := TX5) (Cn := RX5) (ty0 := tyX5) (ty := tyX5 1) C (by rw [hK]; decide) (ent_5 hK) rfl 1 (by decide) inb_5 tyX5_ok nmX5 (show (Cond.fieldLink RX0 25 RX0 "bits" "I").before args s = true from (C.w (mem_tb (mem_tbl 436 (by decide +kernel)) (by decide +kernel)))) (fun _ h => h) (Or.inr ⟨rfl, hi, rfl⟩) (tyX5_ok 1 (by decide)) rfl rfl (Nat.le_of_ble_eq_true rfl) (by rw [ent_5 (show sK (uI S 1 a v) a = 5 from hK)]; simp [fI_uI, fJ_uI, fR_uI, fI_uJ, fJ_uJ, fR_uJ, fI_uR, fJ_uR, fR_uR, va_rf]) uI_ne (fun _ h => h) d hn kk
theorem sX1_7 (C : Cx p l s m args meth c cc nL RX1 ret G b) {n a : Nat} {v : Nat} (hi : meth.name = "<init>") (hK : sK S a = 1) (d : decode cc pc = .ok (.putfield 7, 3)) (hn : pc + 3 = n) (kk : J p l e R s m args below meth c nL G b Q n lv st (uR S 100 a (some v)) cells slots) : J p l e R s m args below meth c nL G b Q pc lv (.ref v :: .ref a :: st) S cells slots := 
  r_put (S' := uR S 100 a (some v)) (T := TX1) (Cn := RX1) (ty0 := tyX1) (ty := tyX1 0) C (by rw [hK]; decide) (ent_1 hK) rfl 0 (by decide) inb_1 tyX1_ok nmX1 (show (Cond.fieldLink RX1 7 RX1 "taps" "LSoundKernel$Taps;").before args s = true from (C.w (mem_tb (mem_tbl 409 (by decide +kernel)) (by decide +kernel)))) (fun _ h => h) (Or.inr ⟨rfl, hi, rfl⟩) (tyX1_ok 0 (by decide)) rfl rfl (Nat.le_of_ble_eq_true rfl) (by rw [ent_1 (show sK (uR S 100 a (some v)) a = 1 from hK)]; simp [fI_uI, fJ_uI, fR_uI, fI_uJ, fJ_uJ, fR_uJ, fI_uR, fJ_uR, fR_uR, va_rf]) uR_ne (fun _ h => h) d hn kk
theorem sX1_13 (C : Cx p l s m args meth c cc nL RX1 ret G b) {n a : Nat} {v : Int64} (hi : meth.name = "<init>") (hK : sK S a = 1) (d : decode cc pc = .ok (.putfield 13, 3)) (hn : pc + 3 = n) (kk : J p l e R s m args below meth c nL G b Q n lv st (uJ S 101 a v) cells slots) : J p l e R s m args below meth c nL G b Q pc lv (.long v :: .ref a :: st) S cells slots := 
  r_put (S' := uJ S 101 a v) (T := TX1) (Cn := RX1) (ty0 := tyX1) (ty := tyX1 1) C (by rw [hK]; decide) (ent_1 hK) rfl 1 (by decide) inb_1 tyX1_ok nmX1 (show (Cond.fieldLink RX1 13 RX1 "from" "J").before args s = true from (C.w (mem_tb (mem_tbl 410 (by decide +kernel)) (by decide +kernel)))) (fun _ h => h) (Or.inr ⟨rfl, hi, rfl⟩) (tyX1_ok 1 (by decide)) rfl rfl (Nat.le_of_ble_eq_true rfl) (by rw [ent_1 (show sK (uJ S 101 a v) a = 1 from hK)]; simp [fI_uI, fJ_uI, fR_uI, fI_uJ, fJ_uJ, fR_uJ, fI_uR, fJ_uR, fR_uR, va_rf]) uJ_ne (fun _ h => h) d hn kk
theorem sX1_23 (C : Cx p l s m args meth c cc nL RX1 ret G b) {n a : Nat} {v : Int64} (hi : meth.name = "<init>") (hK : sK S a = 1) (d : decode cc pc = .ok (.putfield 23, 3)) (hn : pc + 3 = n) (kk : J p l e R s m args below meth c nL G b Q n lv st (uJ S 102 a v) cells slots) : J p l e R s m args below meth c nL G b Q pc lv (.long v :: .ref a :: st) S cells slots := 
  r_put (S' := uJ S 102 a v) (T := TX1) (Cn := RX1) (ty0 := tyX1) (ty := tyX1 2) C (by rw [hK]; decide) (ent_1 hK) rfl 2 (by decide) inb_1 tyX1_ok nmX1 (show (Cond.fieldLink RX1 23 RX1 "to" "J").before args s = true from (C.w (mem_tb (mem_tbl 411 (by decide +kernel)) (by decide +kernel)))) (fun _ h => h) (Or.inr ⟨rfl, hi, rfl⟩) (tyX1_ok 2 (by decide)) rfl rfl (Nat.le_of_ble_eq_true rfl) (by rw [ent_1 (show sK (uJ S 102 a v) a = 1 from hK)]; simp [fI_uI, fJ_uI, fR_uI, fI_uJ, fJ_uJ, fR_uJ, fI_uR, fJ_uR, fR_uR, va_rf]) uJ_ne (fun _ h => h) d hn kk
theorem sX2_9 (C : Cx p l s m args meth c cc nL RX2 ret G b) {n a : Nat} {v : Nat} (hi : meth.name = "<init>") (hK : sK S a = 2) (d : decode cc pc = .ok (.putfield 9, 3)) (hn : pc + 3 = n) (kk : J p l e R s m args below meth c nL G b Q n lv st (uR S 200 a (some v)) cells slots) : J p l e R s m args below meth c nL G b Q pc lv (.ref v :: .ref a :: st) S cells slots := 
  r_put (S' := uR S 200 a (some v)) (T := TX2) (Cn := RX2) (ty0 := tyX2) (ty := tyX2 0) C (by rw [hK]; decide) (ent_2 hK) rfl 0 (by decide) inb_2 tyX2_ok nmX2 (show (Cond.fieldLink RX2 9 RX2 "lefts" "[I").before args s = true from (C.w (mem_tb (mem_tbl 389 (by decide +kernel)) (by decide +kernel)))) (fun _ h => h) (Or.inr ⟨rfl, hi, rfl⟩) (tyX2_ok 0 (by decide)) rfl rfl (Nat.le_of_ble_eq_true rfl) (by rw [ent_2 (show sK (uR S 200 a (some v)) a = 2 from hK)]; simp [fI_uI, fJ_uI, fR_uI, fI_uJ, fJ_uJ, fR_uJ, fI_uR, fJ_uR, fR_uR, va_rf]) uR_ne (fun _ h => h) d hn kk
theorem sX2_13 (C : Cx p l s m args meth c cc nL RX2 ret G b) {n a : Nat} {v : Nat} (hi : meth.name = "<init>") (hK : sK S a = 2) (d : decode cc pc = .ok (.putfield 13, 3)) (hn : pc + 3 = n) (kk : J p l e R s m args below meth c nL G b Q n lv st (uR S 201 a (some v)) cells slots) : J p l e R s m args below meth c nL G b Q pc lv (.ref v :: .ref a :: st) S cells slots := 
  r_put (S' := uR S 201 a (some v)) (T := TX2) (Cn := RX2) (ty0 := tyX2) (ty := tyX2 1) C (by rw [hK]; decide) (ent_2 hK) rfl 1 (by decide) inb_2 tyX2_ok nmX2 (show (Cond.fieldLink RX2 13 RX2 "rights" "[I").before args s = true from (C.w (mem_tb (mem_tbl 390 (by decide +kernel)) (by decide +kernel)))) (fun _ h => h) (Or.inr ⟨rfl, hi, rfl⟩) (tyX2_ok 1 (by decide)) rfl rfl (Nat.le_of_ble_eq_true rfl) (by rw [ent_2 (show sK (uR S 201 a (some v)) a = 2 from hK)]; simp [fI_uI, fJ_uI, fR_uI, fI_uJ, fJ_uJ, fR_uJ, fI_uR, fJ_uR, fR_uR, va_rf]) uR_ne (fun _ h => h) d hn kk
theorem sX2_16 (C : Cx p l s m args meth c cc nL RX2 ret G b) {n a : Nat} {v : Int64} (hK : sK S a = 2) (d : decode cc pc = .ok (.putfield 16, 3)) (hn : pc + 3 = n) (kk : J p l e R s m args below meth c nL G b Q n lv st (uJ S 202 a v) cells slots) : J p l e R s m args below meth c nL G b Q pc lv (.long v :: .ref a :: st) S cells slots := 
  r_put (S' := uJ S 202 a v) (T := TX2) (Cn := RX2) (ty0 := tyX2) (ty := tyX2 2) C (by rw [hK]; decide) (ent_2 hK) rfl 2 (by decide) inb_2 tyX2_ok nmX2 (show (Cond.fieldLink RX2 16 RX2 "count" "J").before args s = true from (C.w (mem_tb (mem_tbl 391 (by decide +kernel)) (by decide +kernel)))) (fun _ h => h) (Or.inl rfl) (tyX2_ok 2 (by decide)) rfl rfl (Nat.le_of_ble_eq_true rfl) (by rw [ent_2 (show sK (uJ S 202 a v) a = 2 from hK)]; simp [fI_uI, fJ_uI, fR_uI, fI_uJ, fJ_uJ, fR_uJ, fI_uR, fJ_uR, fR_uR, va_rf]) uJ_ne (fun _ h => h) d hn kk
theorem sX3_9 (C : Cx p l s m args meth c cc nL RX3 ret G b) {n a : Nat} {v : Int32} (hK : sK S a = 3) (hz : narrow .boolean (.int v) = .int v) (hz2 : fits .boolean (.int v) = true) (d : decode cc pc = .ok (.putfield 9, 3)) (hn : pc + 3 = n) (kk : J p l e R s m args below meth c nL G b Q n lv st (uI S 300 a v) cells slots) : J p l e R s m args below meth c nL G b Q pc lv (.int v :: .ref a :: st) S cells slots := 
  r_put (S' := uI S 300 a v) (T := TX3) (Cn := RX3) (ty0 := tyX3) (ty := tyX3 0) C (by rw [hK]; decide) (ent_3 hK) rfl 0 (by decide) inb_3 tyX3_ok nmX3 (show (Cond.fieldLink RX3 9 RX3 "on" "Z").before args s = true from (C.w (mem_tb (mem_tbl 52 (by decide +kernel)) (by decide +kernel)))) (fun _ h => h) (Or.inl rfl) (tyX3_ok 0 (by decide)) hz hz2 (Nat.le_of_ble_eq_true rfl) (by rw [ent_3 (show sK (uI S 300 a v) a = 3 from hK)]; simp [fI_uI, fJ_uI, fR_uI, fI_uJ, fJ_uJ, fR_uJ, fI_uR, fJ_uR, fR_uR, va_rf]) uI_ne (fun _ h => h) d hn kk
theorem sX3_15 (C : Cx p l s m args meth c cc nL RX3 ret G b) {n a : Nat} {v : Int32} (hK : sK S a = 3) (d : decode cc pc = .ok (.putfield 15, 3)) (hn : pc + 3 = n) (kk : J p l e R s m args below meth c nL G b Q n lv st (uI S 301 a v) cells slots) : J p l e R s m args below meth c nL G b Q pc lv (.int v :: .ref a :: st) S cells slots := 
  r_put (S' := uI S 301 a v) (T := TX3) (Cn := RX3) (ty0 := tyX3) (ty := tyX3 1) C (by rw [hK]; decide) (ent_3 hK) rfl 1 (by decide) inb_3 tyX3_ok nmX3 (show (Cond.fieldLink RX3 15 RX3 "factor" "I").before args s = true from (C.w (mem_tb (mem_tbl 54 (by decide +kernel)) (by decide +kernel)))) (fun _ h => h) (Or.inl rfl) (tyX3_ok 1 (by decide)) rfl rfl (Nat.le_of_ble_eq_true rfl) (by rw [ent_3 (show sK (uI S 301 a v) a = 3 from hK)]; simp [fI_uI, fJ_uI, fR_uI, fI_uJ, fJ_uJ, fR_uJ, fI_uR, fJ_uR, fR_uR, va_rf]) uI_ne (fun _ h => h) d hn kk
theorem sX3_19 (C : Cx p l s m args meth c cc nL RX3 ret G b) {n a : Nat} {v : Int32} (hK : sK S a = 3) (d : decode cc pc = .ok (.putfield 19, 3)) (hn : pc + 3 = n) (kk : J p l e R s m args below meth c nL G b Q n lv st (uI S 302 a v) cells slots) : J p l e R s m args below meth c nL G b Q pc lv (.int v :: .ref a :: st) S cells slots := 
  r_put (S' := uI S 302 a v) (T := TX3) (Cn := RX3) (ty0 := tyX3) (ty := tyX3 2) C (by rw [hK]; decide) (ent_3 hK) rfl 2 (by decide) inb_3 tyX3_ok nmX3 (show (Cond.fieldLink RX3 19 RX3 "cuts" "I").before args s = true from (C.w (mem_tb (mem_tbl 56 (by decide +kernel)) (by decide +kernel)))) (fun _ h => h) (Or.inl rfl) (tyX3_ok 2 (by decide)) rfl rfl (Nat.le_of_ble_eq_true rfl) (by rw [ent_3 (show sK (uI S 302 a v) a = 3 from hK)]; simp [fI_uI, fJ_uI, fR_uI, fI_uJ, fJ_uJ, fR_uJ, fI_uR, fJ_uR, fR_uR, va_rf]) uI_ne (fun _ h => h) d hn kk
theorem sX3_22 (C : Cx p l s m args meth c cc nL RX3 ret G b) {n a : Nat} {v : Int64} (hK : sK S a = 3) (d : decode cc pc = .ok (.putfield 22, 3)) (hn : pc + 3 = n) (kk : J p l e R s m args below meth c nL G b Q n lv st (uJ S 303 a v) cells slots) : J p l e R s m args below meth c nL G b Q pc lv (.long v :: .ref a :: st) S cells slots := 
  r_put (S' := uJ S 303 a v) (T := TX3) (Cn := RX3) (ty0 := tyX3) (ty := tyX3 3) C (by rw [hK]; decide) (ent_3 hK) rfl 3 (by decide) inb_3 tyX3_ok nmX3 (show (Cond.fieldLink RX3 22 RX3 "frames" "J").before args s = true from (C.w (mem_tb (mem_tbl 58 (by decide +kernel)) (by decide +kernel)))) (fun _ h => h) (Or.inl rfl) (tyX3_ok 3 (by decide)) rfl rfl (Nat.le_of_ble_eq_true rfl) (by rw [ent_3 (show sK (uJ S 303 a v) a = 3 from hK)]; simp [fI_uI, fJ_uI, fR_uI, fI_uJ, fJ_uJ, fR_uJ, fI_uR, fJ_uR, fR_uR, va_rf]) uJ_ne (fun _ h => h) d hn kk
theorem sX4_14 (C : Cx p l s m args meth c cc nL RX4 ret G b) {n a : Nat} {v : Nat} (hi : meth.name = "<init>") (hK : sK S a = 4) (d : decode cc pc = .ok (.putfield 14, 3)) (hn : pc + 3 = n) (kk : J p l e R s m args below meth c nL G b Q n lv st (uR S 406 a (some v)) cells slots) : J p l e R s m args below meth c nL G b Q pc lv (.ref v :: .ref a :: st) S cells slots := 
  r_put (S' := uR S 406 a (some v)) (T := TX4) (Cn := RX4) (ty0 := tyX4) (ty := tyX4 6) C (by rw [hK]; decide) (ent_4 hK) rfl 6 (by decide) inb_4 tyX4_ok nmX4 (show (Cond.fieldLink RX4 14 RX4 "captured" "LSoundKernel$Frames;").before args s = true from (C.w (mem_tb (mem_tbl 497 (by decide +kernel)) (by decide +kernel)))) (fun _ h => h) (Or.inr ⟨rfl, hi, rfl⟩) (tyX4_ok 6 (by decide)) rfl rfl (Nat.le_of_ble_eq_true rfl) (by rw [ent_4 (show sK (uR S 406 a (some v)) a = 4 from hK)]; simp [fI_uI, fJ_uI, fR_uI, fI_uJ, fJ_uJ, fR_uJ, fI_uR, fJ_uR, fR_uR, va_rf]) uR_ne (fun _ h => h) d hn kk
theorem sX4_20 (C : Cx p l s m args meth c cc nL RX4 ret G b) {n a : Nat} {v : Nat} (hi : meth.name = "<init>") (hK : sK S a = 4) (d : decode cc pc = .ok (.putfield 20, 3)) (hn : pc + 3 = n) (kk : J p l e R s m args below meth c nL G b Q n lv st (uR S 407 a (some v)) cells slots) : J p l e R s m args below meth c nL G b Q pc lv (.ref v :: .ref a :: st) S cells slots := 
  r_put (S' := uR S 407 a (some v)) (T := TX4) (Cn := RX4) (ty0 := tyX4) (ty := tyX4 7) C (by rw [hK]; decide) (ent_4 hK) rfl 7 (by decide) inb_4 tyX4_ok nmX4 (show (Cond.fieldLink RX4 20 RX4 "unlocked" "LSoundKernel$Frames;").before args s = true from (C.w (mem_tb (mem_tbl 498 (by decide +kernel)) (by decide +kernel)))) (fun _ h => h) (Or.inr ⟨rfl, hi, rfl⟩) (tyX4_ok 7 (by decide)) rfl rfl (Nat.le_of_ble_eq_true rfl) (by rw [ent_4 (show sK (uR S 407 a (some v)) a = 4 from hK)]; simp [fI_uI, fJ_uI, fR_uI, fI_uJ, fJ_uJ, fR_uJ, fI_uR, fJ_uR, fR_uR, va_rf]) uR_ne (fun _ h => h) d hn kk
theorem sX4_23 (C : Cx p l s m args meth c cc nL RX4 ret G b) {n a : Nat} {v : Int64} (hK : sK S a = 4) (d : decode cc pc = .ok (.putfield 23, 3)) (hn : pc + 3 = n) (kk : J p l e R s m args below meth c nL G b Q n lv st (uJ S 408 a v) cells slots) : J p l e R s m args below meth c nL G b Q pc lv (.long v :: .ref a :: st) S cells slots := 
  r_put (S' := uJ S 408 a v) (T := TX4) (Cn := RX4) (ty0 := tyX4) (ty := tyX4 8) C (by rw [hK]; decide) (ent_4 hK) rfl 8 (by decide) inb_4 tyX4_ok nmX4 (show (Cond.fieldLink RX4 23 RX4 "next" "J").before args s = true from (C.w (mem_tb (mem_tbl 499 (by decide +kernel)) (by decide +kernel)))) (fun _ h => h) (Or.inl rfl) (tyX4_ok 8 (by decide)) rfl rfl (Nat.le_of_ble_eq_true rfl) (by rw [ent_4 (show sK (uJ S 408 a v) a = 4 from hK)]; simp [fI_uI, fJ_uI, fR_uI, fI_uJ, fJ_uJ, fR_uJ, fI_uR, fJ_uR, fR_uR, va_rf]) uJ_ne (fun _ h => h) d hn kk
theorem sX4_27 (C : Cx p l s m args meth c cc nL RX4 ret G b) {n a : Nat} {v : Int64} (hK : sK S a = 4) (d : decode cc pc = .ok (.putfield 27, 3)) (hn : pc + 3 = n) (kk : J p l e R s m args below meth c nL G b Q n lv st (uJ S 409 a v) cells slots) : J p l e R s m args below meth c nL G b Q pc lv (.long v :: .ref a :: st) S cells slots := 
  r_put (S' := uJ S 409 a v) (T := TX4) (Cn := RX4) (ty0 := tyX4) (ty := tyX4 9) C (by rw [hK]; decide) (ent_4 hK) rfl 9 (by decide) inb_4 tyX4_ok nmX4 (show (Cond.fieldLink RX4 27 RX4 "wholly" "J").before args s = true from (C.w (mem_tb (mem_tbl 500 (by decide +kernel)) (by decide +kernel)))) (fun _ h => h) (Or.inl rfl) (tyX4_ok 9 (by decide)) rfl rfl (Nat.le_of_ble_eq_true rfl) (by rw [ent_4 (show sK (uJ S 409 a v) a = 4 from hK)]; simp [fI_uI, fJ_uI, fR_uI, fI_uJ, fJ_uJ, fR_uJ, fI_uR, fJ_uR, fR_uR, va_rf]) uJ_ne (fun _ h => h) d hn kk
theorem sX4_36 (C : Cx p l s m args meth c cc nL RX4 ret G b) {n a : Nat} {v : Nat} (hi : meth.name = "<init>") (hK : sK S a = 4) (d : decode cc pc = .ok (.putfield 36, 3)) (hn : pc + 3 = n) (kk : J p l e R s m args below meth c nL G b Q n lv st (uR S 405 a (some v)) cells slots) : J p l e R s m args below meth c nL G b Q pc lv (.ref v :: .ref a :: st) S cells slots := 
  r_put (S' := uR S 405 a (some v)) (T := TX4) (Cn := RX4) (ty0 := tyX4) (ty := tyX4 5) C (by rw [hK]; decide) (ent_4 hK) rfl 5 (by decide) inb_4 tyX4_ok nmX4 (show (Cond.fieldLink RX4 36 RX4 "converter" "LSoundKernel$Converter;").before args s = true from (C.w (mem_tb (mem_tbl 496 (by decide +kernel)) (by decide +kernel)))) (fun _ h => h) (Or.inr ⟨rfl, hi, rfl⟩) (tyX4_ok 5 (by decide)) rfl rfl (Nat.le_of_ble_eq_true rfl) (by rw [ent_4 (show sK (uR S 405 a (some v)) a = 4 from hK)]; simp [fI_uI, fJ_uI, fR_uI, fI_uJ, fJ_uJ, fR_uJ, fI_uR, fJ_uR, fR_uR, va_rf]) uR_ne (fun _ h => h) d hn kk
theorem sX4_56 (C : Cx p l s m args meth c cc nL RX4 ret G b) {n a : Nat} {v : Int32} (hK : sK S a = 4) (d : decode cc pc = .ok (.putfield 56, 3)) (hn : pc + 3 = n) (kk : J p l e R s m args below meth c nL G b Q n lv st (uI S 3 a v) cells slots) : J p l e R s m args below meth c nL G b Q pc lv (.int v :: .ref a :: st) S cells slots := 
  r_put (S' := uI S 3 a v) (T := TX4) (Cn := RX4) (ty0 := tyX4) (ty := tyX4 3) C (by rw [hK]; decide) (ent_4 hK) rfl 3 (by decide) inb_4 tyX4_ok nmX4 (show (Cond.fieldLink RX4 56 RX4 "timesLate" "I").before args s = true from (C.w (mem_tb (mem_tbl 445 (by decide +kernel)) (by decide +kernel)))) (fun x h => u_same (C.w (mem_tb (mem_tbl 446 (by decide +kernel)) (by decide +kernel))) x h) (Or.inl rfl) (tyX4_ok 3 (by decide)) rfl rfl (Nat.le_of_ble_eq_true rfl) (by rw [ent_4 (show sK (uI S 3 a v) a = 4 from hK)]; simp [fI_uI, fJ_uI, fR_uI, fI_uJ, fJ_uJ, fR_uJ, fI_uR, fJ_uR, fR_uR, va_rf]) uI_ne (fun _ h => h) d hn kk
theorem sX4_81 (C : Cx p l s m args meth c cc nL RX4 ret G b) {n a : Nat} {v : Int32} (hK : sK S a = 4) (hz : narrow .boolean (.int v) = .int v) (hz2 : fits .boolean (.int v) = true) (d : decode cc pc = .ok (.putfield 81, 3)) (hn : pc + 3 = n) (kk : J p l e R s m args below meth c nL G b Q n lv st (uI S 4 a v) cells slots) : J p l e R s m args below meth c nL G b Q pc lv (.int v :: .ref a :: st) S cells slots := 
  r_put (S' := uI S 4 a v) (T := TX4) (Cn := RX4) (ty0 := tyX4) (ty := tyX4 4) C (by rw [hK]; decide) (ent_4 hK) rfl 4 (by decide) inb_4 tyX4_ok nmX4 (show (Cond.fieldLink RX4 81 RX4 "half" "Z").before args s = true from (C.w (mem_tb (mem_tbl 453 (by decide +kernel)) (by decide +kernel)))) (fun x h => u_same (C.w (mem_tb (mem_tbl 454 (by decide +kernel)) (by decide +kernel))) x h) (Or.inl rfl) (tyX4_ok 4 (by decide)) hz hz2 (Nat.le_of_ble_eq_true rfl) (by rw [ent_4 (show sK (uI S 4 a v) a = 4 from hK)]; simp [fI_uI, fJ_uI, fR_uI, fI_uJ, fJ_uJ, fR_uJ, fI_uR, fJ_uR, fR_uR, va_rf]) uI_ne (fun _ h => h) d hn kk
theorem sX5_14 (C : Cx p l s m args meth c cc nL RX5 ret G b) {n a : Nat} {v : Nat} (hi : meth.name = "<init>") (hK : sK S a = 5) (d : decode cc pc = .ok (.putfield 14, 3)) (hn : pc + 3 = n) (kk : J p l e R s m args below meth c nL G b Q n lv st (uR S 506 a (some v)) cells slots) : J p l e R s m args below meth c nL G b Q pc lv (.ref v :: .ref a :: st) S cells slots := 
  r_put (S' := uR S 506 a (some v)) (T := TX5) (Cn := RX5) (ty0 := tyX5) (ty := tyX5 6) C (by rw [hK]; decide) (ent_5 hK) rfl 6 (by decide) inb_5 tyX5_ok nmX5 (show (Cond.fieldLink RX5 14 RX5 "written" "LSoundKernel$Frames;").before args s = true from (C.w (mem_tb (mem_tbl 420 (by decide +kernel)) (by decide +kernel)))) (fun _ h => h) (Or.inr ⟨rfl, hi, rfl⟩) (tyX5_ok 6 (by decide)) rfl rfl (Nat.le_of_ble_eq_true rfl) (by rw [ent_5 (show sK (uR S 506 a (some v)) a = 5 from hK)]; simp [fI_uI, fJ_uI, fR_uI, fI_uJ, fJ_uJ, fR_uJ, fI_uR, fJ_uR, fR_uR, va_rf]) uR_ne (fun _ h => h) d hn kk
theorem sX5_20 (C : Cx p l s m args meth c cc nL RX5 ret G b) {n a : Nat} {v : Nat} (hi : meth.name = "<init>") (hK : sK S a = 5) (d : decode cc pc = .ok (.putfield 20, 3)) (hn : pc + 3 = n) (kk : J p l e R s m args below meth c nL G b Q n lv st (uR S 507 a (some v)) cells slots) : J p l e R s m args below meth c nL G b Q pc lv (.ref v :: .ref a :: st) S cells slots := 
  r_put (S' := uR S 507 a (some v)) (T := TX5) (Cn := RX5) (ty0 := tyX5) (ty := tyX5 7) C (by rw [hK]; decide) (ent_5 hK) rfl 7 (by decide) inb_5 tyX5_ok nmX5 (show (Cond.fieldLink RX5 20 RX5 "outputsIn" "[I").before args s = true from (C.w (mem_tb (mem_tbl 421 (by decide +kernel)) (by decide +kernel)))) (fun _ h => h) (Or.inr ⟨rfl, hi, rfl⟩) (tyX5_ok 7 (by decide)) rfl rfl (Nat.le_of_ble_eq_true rfl) (by rw [ent_5 (show sK (uR S 507 a (some v)) a = 5 from hK)]; simp [fI_uI, fJ_uI, fR_uI, fI_uJ, fJ_uJ, fR_uJ, fI_uR, fJ_uR, fR_uR, va_rf]) uR_ne (fun _ h => h) d hn kk
theorem sX5_24 (C : Cx p l s m args meth c cc nL RX5 ret G b) {n a : Nat} {v : Int32} (hK : sK S a = 5) (d : decode cc pc = .ok (.putfield 24, 3)) (hn : pc + 3 = n) (kk : J p l e R s m args below meth c nL G b Q n lv st (uI S 508 a v) cells slots) : J p l e R s m args below meth c nL G b Q pc lv (.int v :: .ref a :: st) S cells slots := 
  r_put (S' := uI S 508 a v) (T := TX5) (Cn := RX5) (ty0 := tyX5) (ty := tyX5 8) C (by rw [hK]; decide) (ent_5 hK) rfl 8 (by decide) inb_5 tyX5_ok nmX5 (show (Cond.fieldLink RX5 24 RX5 "loudness" "I").before args s = true from (C.w (mem_tb (mem_tbl 422 (by decide +kernel)) (by decide +kernel)))) (fun _ h => h) (Or.inl rfl) (tyX5_ok 8 (by decide)) rfl rfl (Nat.le_of_ble_eq_true rfl) (by rw [ent_5 (show sK (uI S 508 a v) a = 5 from hK)]; simp [fI_uI, fJ_uI, fR_uI, fI_uJ, fJ_uJ, fR_uJ, fI_uR, fJ_uR, fR_uR, va_rf]) uI_ne (fun _ h => h) d hn kk
theorem sX5_28 (C : Cx p l s m args meth c cc nL RX5 ret G b) {n a : Nat} {v : Int32} (hK : sK S a = 5) (d : decode cc pc = .ok (.putfield 28, 3)) (hn : pc + 3 = n) (kk : J p l e R s m args below meth c nL G b Q n lv st (uI S 509 a v) cells slots) : J p l e R s m args below meth c nL G b Q pc lv (.int v :: .ref a :: st) S cells slots := 
  r_put (S' := uI S 509 a v) (T := TX5) (Cn := RX5) (ty0 := tyX5) (ty := tyX5 9) C (by rw [hK]; decide) (ent_5 hK) rfl 9 (by decide) inb_5 tyX5_ok nmX5 (show (Cond.fieldLink RX5 28 RX5 "heldLeft" "I").before args s = true from (C.w (mem_tb (mem_tbl 424 (by decide +kernel)) (by decide +kernel)))) (fun _ h => h) (Or.inl rfl) (tyX5_ok 9 (by decide)) rfl rfl (Nat.le_of_ble_eq_true rfl) (by rw [ent_5 (show sK (uI S 509 a v) a = 5 from hK)]; simp [fI_uI, fJ_uI, fR_uI, fI_uJ, fJ_uJ, fR_uJ, fI_uR, fJ_uR, fR_uR, va_rf]) uI_ne (fun _ h => h) d hn kk
theorem sX5_31 (C : Cx p l s m args meth c cc nL RX5 ret G b) {n a : Nat} {v : Int32} (hK : sK S a = 5) (d : decode cc pc = .ok (.putfield 31, 3)) (hn : pc + 3 = n) (kk : J p l e R s m args below meth c nL G b Q n lv st (uI S 510 a v) cells slots) : J p l e R s m args below meth c nL G b Q pc lv (.int v :: .ref a :: st) S cells slots := 
  r_put (S' := uI S 510 a v) (T := TX5) (Cn := RX5) (ty0 := tyX5) (ty := tyX5 10) C (by rw [hK]; decide) (ent_5 hK) rfl 10 (by decide) inb_5 tyX5_ok nmX5 (show (Cond.fieldLink RX5 31 RX5 "lastLeft" "I").before args s = true from (C.w (mem_tb (mem_tbl 425 (by decide +kernel)) (by decide +kernel)))) (fun _ h => h) (Or.inl rfl) (tyX5_ok 10 (by decide)) rfl rfl (Nat.le_of_ble_eq_true rfl) (by rw [ent_5 (show sK (uI S 510 a v) a = 5 from hK)]; simp [fI_uI, fJ_uI, fR_uI, fI_uJ, fJ_uJ, fR_uJ, fI_uR, fJ_uR, fR_uR, va_rf]) uI_ne (fun _ h => h) d hn kk
theorem sX5_34 (C : Cx p l s m args meth c cc nL RX5 ret G b) {n a : Nat} {v : Int32} (hK : sK S a = 5) (d : decode cc pc = .ok (.putfield 34, 3)) (hn : pc + 3 = n) (kk : J p l e R s m args below meth c nL G b Q n lv st (uI S 511 a v) cells slots) : J p l e R s m args below meth c nL G b Q pc lv (.int v :: .ref a :: st) S cells slots := 
  r_put (S' := uI S 511 a v) (T := TX5) (Cn := RX5) (ty0 := tyX5) (ty := tyX5 11) C (by rw [hK]; decide) (ent_5 hK) rfl 11 (by decide) inb_5 tyX5_ok nmX5 (show (Cond.fieldLink RX5 34 RX5 "lastRight" "I").before args s = true from (C.w (mem_tb (mem_tbl 426 (by decide +kernel)) (by decide +kernel)))) (fun _ h => h) (Or.inl rfl) (tyX5_ok 11 (by decide)) rfl rfl (Nat.le_of_ble_eq_true rfl) (by rw [ent_5 (show sK (uI S 511 a v) a = 5 from hK)]; simp [fI_uI, fJ_uI, fR_uI, fI_uJ, fJ_uJ, fR_uJ, fI_uR, fJ_uR, fR_uR, va_rf]) uI_ne (fun _ h => h) d hn kk
theorem sX5_37 (C : Cx p l s m args meth c cc nL RX5 ret G b) {n a : Nat} {v : Int64} (hK : sK S a = 5) (d : decode cc pc = .ok (.putfield 37, 3)) (hn : pc + 3 = n) (kk : J p l e R s m args below meth c nL G b Q n lv st (uJ S 512 a v) cells slots) : J p l e R s m args below meth c nL G b Q pc lv (.long v :: .ref a :: st) S cells slots := 
  r_put (S' := uJ S 512 a v) (T := TX5) (Cn := RX5) (ty0 := tyX5) (ty := tyX5 12) C (by rw [hK]; decide) (ent_5 hK) rfl 12 (by decide) inb_5 tyX5_ok nmX5 (show (Cond.fieldLink RX5 37 RX5 "next" "J").before args s = true from (C.w (mem_tb (mem_tbl 427 (by decide +kernel)) (by decide +kernel)))) (fun _ h => h) (Or.inl rfl) (tyX5_ok 12 (by decide)) rfl rfl (Nat.le_of_ble_eq_true rfl) (by rw [ent_5 (show sK (uJ S 512 a v) a = 5 from hK)]; simp [fI_uI, fJ_uI, fR_uI, fI_uJ, fJ_uJ, fR_uJ, fI_uR, fJ_uR, fR_uR, va_rf]) uJ_ne (fun _ h => h) d hn kk
theorem sX5_41 (C : Cx p l s m args meth c cc nL RX5 ret G b) {n a : Nat} {v : Int64} (hK : sK S a = 5) (d : decode cc pc = .ok (.putfield 41, 3)) (hn : pc + 3 = n) (kk : J p l e R s m args below meth c nL G b Q n lv st (uJ S 513 a v) cells slots) : J p l e R s m args below meth c nL G b Q pc lv (.long v :: .ref a :: st) S cells slots := 
  r_put (S' := uJ S 513 a v) (T := TX5) (Cn := RX5) (ty0 := tyX5) (ty := tyX5 13) C (by rw [hK]; decide) (ent_5 hK) rfl 13 (by decide) inb_5 tyX5_ok nmX5 (show (Cond.fieldLink RX5 41 RX5 "heard" "J").before args s = true from (C.w (mem_tb (mem_tbl 428 (by decide +kernel)) (by decide +kernel)))) (fun _ h => h) (Or.inl rfl) (tyX5_ok 13 (by decide)) rfl rfl (Nat.le_of_ble_eq_true rfl) (by rw [ent_5 (show sK (uJ S 513 a v) a = 5 from hK)]; simp [fI_uI, fJ_uI, fR_uI, fI_uJ, fJ_uJ, fR_uJ, fI_uR, fJ_uR, fR_uR, va_rf]) uJ_ne (fun _ h => h) d hn kk
theorem sX5_44 (C : Cx p l s m args meth c cc nL RX5 ret G b) {n a : Nat} {v : Int64} (hK : sK S a = 5) (d : decode cc pc = .ok (.putfield 44, 3)) (hn : pc + 3 = n) (kk : J p l e R s m args below meth c nL G b Q n lv st (uJ S 514 a v) cells slots) : J p l e R s m args below meth c nL G b Q pc lv (.long v :: .ref a :: st) S cells slots := 
  r_put (S' := uJ S 514 a v) (T := TX5) (Cn := RX5) (ty0 := tyX5) (ty := tyX5 14) C (by rw [hK]; decide) (ent_5 hK) rfl 14 (by decide) inb_5 tyX5_ok nmX5 (show (Cond.fieldLink RX5 44 RX5 "squares" "J").before args s = true from (C.w (mem_tb (mem_tbl 429 (by decide +kernel)) (by decide +kernel)))) (fun _ h => h) (Or.inl rfl) (tyX5_ok 14 (by decide)) rfl rfl (Nat.le_of_ble_eq_true rfl) (by rw [ent_5 (show sK (uJ S 514 a v) a = 5 from hK)]; simp [fI_uI, fJ_uI, fR_uI, fI_uJ, fJ_uJ, fR_uJ, fI_uR, fJ_uR, fR_uR, va_rf]) uJ_ne (fun _ h => h) d hn kk
theorem sX5_53 (C : Cx p l s m args meth c cc nL RX5 ret G b) {n a : Nat} {v : Nat} (hi : meth.name = "<init>") (hK : sK S a = 5) (d : decode cc pc = .ok (.putfield 53, 3)) (hn : pc + 3 = n) (kk : J p l e R s m args below meth c nL G b Q n lv st (uR S 505 a (some v)) cells slots) : J p l e R s m args below meth c nL G b Q pc lv (.ref v :: .ref a :: st) S cells slots := 
  r_put (S' := uR S 505 a (some v)) (T := TX5) (Cn := RX5) (ty0 := tyX5) (ty := tyX5 5) C (by rw [hK]; decide) (ent_5 hK) rfl 5 (by decide) inb_5 tyX5_ok nmX5 (show (Cond.fieldLink RX5 53 RX5 "outputs" "LSoundKernel$Converter;").before args s = true from (C.w (mem_tb (mem_tbl 419 (by decide +kernel)) (by decide +kernel)))) (fun _ h => h) (Or.inr ⟨rfl, hi, rfl⟩) (tyX5_ok 5 (by decide)) rfl rfl (Nat.le_of_ble_eq_true rfl) (by rw [ent_5 (show sK (uR S 505 a (some v)) a = 5 from hK)]; simp [fI_uI, fJ_uI, fR_uI, fI_uJ, fJ_uJ, fR_uJ, fI_uR, fJ_uR, fR_uR, va_rf]) uR_ne (fun _ h => h) d hn kk
theorem sX5_57 (C : Cx p l s m args meth c cc nL RX5 ret G b) {n a : Nat} {v : Int32} (hK : sK S a = 5) (d : decode cc pc = .ok (.putfield 57, 3)) (hn : pc + 3 = n) (kk : J p l e R s m args below meth c nL G b Q n lv st (uI S 2 a v) cells slots) : J p l e R s m args below meth c nL G b Q pc lv (.int v :: .ref a :: st) S cells slots := 
  r_put (S' := uI S 2 a v) (T := TX5) (Cn := RX5) (ty0 := tyX5) (ty := tyX5 2) C (by rw [hK]; decide) (ent_5 hK) rfl 2 (by decide) inb_5 tyX5_ok nmX5 (show (Cond.fieldLink RX5 57 RX5 "condition" "I").before args s = true from (C.w (mem_tb (mem_tbl 438 (by decide +kernel)) (by decide +kernel)))) (fun x h => u_same (C.w (mem_tb (mem_tbl 439 (by decide +kernel)) (by decide +kernel))) x h) (Or.inl rfl) (tyX5_ok 2 (by decide)) rfl rfl (Nat.le_of_ble_eq_true rfl) (by rw [ent_5 (show sK (uI S 2 a v) a = 5 from hK)]; simp [fI_uI, fJ_uI, fR_uI, fI_uJ, fJ_uJ, fR_uJ, fI_uR, fJ_uR, fR_uR, va_rf]) uI_ne (fun _ h => h) d hn kk
theorem sX5_86 (C : Cx p l s m args meth c cc nL RX5 ret G b) {n a : Nat} {v : Int32} (hK : sK S a = 5) (hz : narrow .boolean (.int v) = .int v) (hz2 : fits .boolean (.int v) = true) (d : decode cc pc = .ok (.putfield 86, 3)) (hn : pc + 3 = n) (kk : J p l e R s m args below meth c nL G b Q n lv st (uI S 4 a v) cells slots) : J p l e R s m args below meth c nL G b Q pc lv (.int v :: .ref a :: st) S cells slots := 
  r_put (S' := uI S 4 a v) (T := TX5) (Cn := RX5) (ty0 := tyX5) (ty := tyX5 4) C (by rw [hK]; decide) (ent_5 hK) rfl 4 (by decide) inb_5 tyX5_ok nmX5 (show (Cond.fieldLink RX5 86 RX5 "half" "Z").before args s = true from (C.w (mem_tb (mem_tbl 451 (by decide +kernel)) (by decide +kernel)))) (fun x h => u_same (C.w (mem_tb (mem_tbl 452 (by decide +kernel)) (by decide +kernel))) x h) (Or.inl rfl) (tyX5_ok 4 (by decide)) hz hz2 (Nat.le_of_ble_eq_true rfl) (by rw [ent_5 (show sK (uI S 4 a v) a = 5 from hK)]; simp [fI_uI, fJ_uI, fR_uI, fI_uJ, fJ_uJ, fR_uJ, fI_uR, fJ_uR, fR_uR, va_rf]) uI_ne (fun _ h => h) d hn kk
theorem sX5_144 (C : Cx p l s m args meth c cc nL RX5 ret G b) {n a : Nat} {v : Int32} (hK : sK S a = 5) (d : decode cc pc = .ok (.putfield 144, 3)) (hn : pc + 3 = n) (kk : J p l e R s m args below meth c nL G b Q n lv st (uI S 3 a v) cells slots) : J p l e R s m args below meth c nL G b Q pc lv (.int v :: .ref a :: st) S cells slots := 
  r_put (S' := uI S 3 a v) (T := TX5) (Cn := RX5) (ty0 := tyX5) (ty := tyX5 3) C (by rw [hK]; decide) (ent_5 hK) rfl 3 (by decide) inb_5 tyX5_ok nmX5 (show (Cond.fieldLink RX5 144 RX5 "timesLate" "I").before args s = true from (C.w (mem_tb (mem_tbl 447 (by decide +kernel)) (by decide +kernel)))) (fun x h => u_same (C.w (mem_tb (mem_tbl 448 (by decide +kernel)) (by decide +kernel))) x h) (Or.inl rfl) (tyX5_ok 3 (by decide)) rfl rfl (Nat.le_of_ble_eq_true rfl) (by rw [ent_5 (show sK (uI S 3 a v) a = 5 from hK)]; simp [fI_uI, fJ_uI, fR_uI, fI_uJ, fJ_uJ, fR_uJ, fI_uR, fJ_uR, fR_uR, va_rf]) uI_ne (fun _ h => h) d hn kk
theorem sX6_9 (C : Cx p l s m args meth c cc nL RX6 ret G b) {n a : Nat} {v : Nat} (hi : meth.name = "<init>") (hK : sK S a = 6) (d : decode cc pc = .ok (.putfield 9, 3)) (hn : pc + 3 = n) (kk : J p l e R s m args below meth c nL G b Q n lv st (uR S 600 a (some v)) cells slots) : J p l e R s m args below meth c nL G b Q pc lv (.ref v :: .ref a :: st) S cells slots := 
  r_put (S' := uR S 600 a (some v)) (T := TX6) (Cn := RX6) (ty0 := tyX6) (ty := tyX6 0) C (by rw [hK]; decide) (ent_6 hK) rfl 0 (by decide) inb_6 tyX6_ok nmX6 (show (Cond.fieldLink RX6 9 RX6 "row" "[I").before args s = true from (C.w (mem_tb (mem_tbl 41 (by decide +kernel)) (by decide +kernel)))) (fun _ h => h) (Or.inr ⟨rfl, hi, rfl⟩) (tyX6_ok 0 (by decide)) rfl rfl (Nat.le_of_ble_eq_true rfl) (by rw [ent_6 (show sK (uR S 600 a (some v)) a = 6 from hK)]; simp [fI_uI, fJ_uI, fR_uI, fI_uJ, fJ_uJ, fR_uJ, fI_uR, fJ_uR, fR_uR, va_rf]) uR_ne (fun _ h => h) d hn kk
theorem sX8_7 (C : Cx p l s m args meth c cc nL RX8 ret G b) {n a : Nat} {v : Nat} (hi : meth.name = "<init>") (hK : sK S a = 8) (d : decode cc pc = .ok (.putfield 7, 3)) (hn : pc + 3 = n) (kk : J p l e R s m args below meth c nL G b Q n lv st (uR S 801 a (some v)) cells slots) : J p l e R s m args below meth c nL G b Q pc lv (.ref v :: .ref a :: st) S cells slots := 
  r_put (S' := uR S 801 a (some v)) (T := TX8) (Cn := RX8) (ty0 := tyX8) (ty := tyX8 1) C (by rw [hK]; decide) (ent_8 hK) rfl 1 (by decide) inb_8 tyX8_ok nmX8 (show (Cond.fieldLink RX8 7 RX8 "taps" "[I").before args s = true from (C.w (mem_tb (mem_tbl 751 (by decide +kernel)) (by decide +kernel)))) (fun _ h => h) (Or.inr ⟨rfl, hi, rfl⟩) (tyX8_ok 1 (by decide)) rfl rfl (Nat.le_of_ble_eq_true rfl) (by rw [ent_8 (show sK (uR S 801 a (some v)) a = 8 from hK)]; simp [fI_uI, fJ_uI, fR_uI, fI_uJ, fJ_uJ, fR_uJ, fI_uR, fJ_uR, fR_uR, va_rf]) uR_ne (fun _ h => h) d hn kk
theorem sX8_13 (C : Cx p l s m args meth c cc nL RX8 ret G b) {n a : Nat} {v : Nat} (hi : meth.name = "<init>") (hK : sK S a = 8) (d : decode cc pc = .ok (.putfield 13, 3)) (hn : pc + 3 = n) (kk : J p l e R s m args below meth c nL G b Q n lv st (uR S 802 a (some v)) cells slots) : J p l e R s m args below meth c nL G b Q pc lv (.ref v :: .ref a :: st) S cells slots := 
  r_put (S' := uR S 802 a (some v)) (T := TX8) (Cn := RX8) (ty0 := tyX8) (ty := tyX8 2) C (by rw [hK]; decide) (ent_8 hK) rfl 2 (by decide) inb_8 tyX8_ok nmX8 (show (Cond.fieldLink RX8 13 RX8 "isThere" "[Z").before args s = true from (C.w (mem_tb (mem_tbl 752 (by decide +kernel)) (by decide +kernel)))) (fun _ h => h) (Or.inr ⟨rfl, hi, rfl⟩) (tyX8_ok 2 (by decide)) rfl rfl (Nat.le_of_ble_eq_true rfl) (by rw [ent_8 (show sK (uR S 802 a (some v)) a = 8 from hK)]; simp [fI_uI, fJ_uI, fR_uI, fI_uJ, fJ_uJ, fR_uJ, fI_uR, fJ_uR, fR_uR, va_rf]) uR_ne (fun _ h => h) d hn kk
theorem sX8_17 (C : Cx p l s m args meth c cc nL RX8 ret G b) {n a : Nat} {v : Nat} (hi : meth.name = "<init>") (hK : sK S a = 8) (d : decode cc pc = .ok (.putfield 17, 3)) (hn : pc + 3 = n) (kk : J p l e R s m args below meth c nL G b Q n lv st (uR S 803 a (some v)) cells slots) : J p l e R s m args below meth c nL G b Q pc lv (.ref v :: .ref a :: st) S cells slots := 
  r_put (S' := uR S 803 a (some v)) (T := TX8) (Cn := RX8) (ty0 := tyX8) (ty := tyX8 3) C (by rw [hK]; decide) (ent_8 hK) rfl 3 (by decide) inb_8 tyX8_ok nmX8 (show (Cond.fieldLink RX8 17 RX8 "plays" "[Z").before args s = true from (C.w (mem_tb (mem_tbl 753 (by decide +kernel)) (by decide +kernel)))) (fun _ h => h) (Or.inr ⟨rfl, hi, rfl⟩) (tyX8_ok 3 (by decide)) rfl rfl (Nat.le_of_ble_eq_true rfl) (by rw [ent_8 (show sK (uR S 803 a (some v)) a = 8 from hK)]; simp [fI_uI, fJ_uI, fR_uI, fI_uJ, fJ_uJ, fR_uJ, fI_uR, fJ_uR, fR_uR, va_rf]) uR_ne (fun _ h => h) d hn kk
theorem sX8_20 (C : Cx p l s m args meth c cc nL RX8 ret G b) {n a : Nat} {v : Nat} (hi : meth.name = "<init>") (hK : sK S a = 8) (d : decode cc pc = .ok (.putfield 20, 3)) (hn : pc + 3 = n) (kk : J p l e R s m args below meth c nL G b Q n lv st (uR S 804 a (some v)) cells slots) : J p l e R s m args below meth c nL G b Q pc lv (.ref v :: .ref a :: st) S cells slots := 
  r_put (S' := uR S 804 a (some v)) (T := TX8) (Cn := RX8) (ty0 := tyX8) (ty := tyX8 4) C (by rw [hK]; decide) (ent_8 hK) rfl 4 (by decide) inb_8 tyX8_ok nmX8 (show (Cond.fieldLink RX8 20 RX8 "rate" "[I").before args s = true from (C.w (mem_tb (mem_tbl 754 (by decide +kernel)) (by decide +kernel)))) (fun _ h => h) (Or.inr ⟨rfl, hi, rfl⟩) (tyX8_ok 4 (by decide)) rfl rfl (Nat.le_of_ble_eq_true rfl) (by rw [ent_8 (show sK (uR S 804 a (some v)) a = 8 from hK)]; simp [fI_uI, fJ_uI, fR_uI, fI_uJ, fJ_uJ, fR_uJ, fI_uR, fJ_uR, fR_uR, va_rf]) uR_ne (fun _ h => h) d hn kk
theorem sX8_23 (C : Cx p l s m args meth c cc nL RX8 ret G b) {n a : Nat} {v : Nat} (hi : meth.name = "<init>") (hK : sK S a = 8) (d : decode cc pc = .ok (.putfield 23, 3)) (hn : pc + 3 = n) (kk : J p l e R s m args below meth c nL G b Q n lv st (uR S 805 a (some v)) cells slots) : J p l e R s m args below meth c nL G b Q pc lv (.ref v :: .ref a :: st) S cells slots := 
  r_put (S' := uR S 805 a (some v)) (T := TX8) (Cn := RX8) (ty0 := tyX8) (ty := tyX8 5) C (by rw [hK]; decide) (ent_8 hK) rfl 5 (by decide) inb_8 tyX8_ok nmX8 (show (Cond.fieldLink RX8 23 RX8 "channels" "[I").before args s = true from (C.w (mem_tb (mem_tbl 755 (by decide +kernel)) (by decide +kernel)))) (fun _ h => h) (Or.inr ⟨rfl, hi, rfl⟩) (tyX8_ok 5 (by decide)) rfl rfl (Nat.le_of_ble_eq_true rfl) (by rw [ent_8 (show sK (uR S 805 a (some v)) a = 8 from hK)]; simp [fI_uI, fJ_uI, fR_uI, fI_uJ, fJ_uJ, fR_uJ, fI_uR, fJ_uR, fR_uR, va_rf]) uR_ne (fun _ h => h) d hn kk
theorem sX8_26 (C : Cx p l s m args meth c cc nL RX8 ret G b) {n a : Nat} {v : Nat} (hi : meth.name = "<init>") (hK : sK S a = 8) (d : decode cc pc = .ok (.putfield 26, 3)) (hn : pc + 3 = n) (kk : J p l e R s m args below meth c nL G b Q n lv st (uR S 806 a (some v)) cells slots) : J p l e R s m args below meth c nL G b Q pc lv (.ref v :: .ref a :: st) S cells slots := 
  r_put (S' := uR S 806 a (some v)) (T := TX8) (Cn := RX8) (ty0 := tyX8) (ty := tyX8 6) C (by rw [hK]; decide) (ent_8 hK) rfl 6 (by decide) inb_8 tyX8_ok nmX8 (show (Cond.fieldLink RX8 26 RX8 "bits" "[I").before args s = true from (C.w (mem_tb (mem_tbl 756 (by decide +kernel)) (by decide +kernel)))) (fun _ h => h) (Or.inr ⟨rfl, hi, rfl⟩) (tyX8_ok 6 (by decide)) rfl rfl (Nat.le_of_ble_eq_true rfl) (by rw [ent_8 (show sK (uR S 806 a (some v)) a = 8 from hK)]; simp [fI_uI, fJ_uI, fR_uI, fI_uJ, fJ_uJ, fR_uJ, fI_uR, fJ_uR, fR_uR, va_rf]) uR_ne (fun _ h => h) d hn kk
theorem sX8_29 (C : Cx p l s m args meth c cc nL RX8 ret G b) {n a : Nat} {v : Nat} (hi : meth.name = "<init>") (hK : sK S a = 8) (d : decode cc pc = .ok (.putfield 29, 3)) (hn : pc + 3 = n) (kk : J p l e R s m args below meth c nL G b Q n lv st (uR S 807 a (some v)) cells slots) : J p l e R s m args below meth c nL G b Q pc lv (.ref v :: .ref a :: st) S cells slots := 
  r_put (S' := uR S 807 a (some v)) (T := TX8) (Cn := RX8) (ty0 := tyX8) (ty := tyX8 7) C (by rw [hK]; decide) (ent_8 hK) rfl 7 (by decide) inb_8 tyX8_ok nmX8 (show (Cond.fieldLink RX8 29 RX8 "gain" "[I").before args s = true from (C.w (mem_tb (mem_tbl 757 (by decide +kernel)) (by decide +kernel)))) (fun _ h => h) (Or.inr ⟨rfl, hi, rfl⟩) (tyX8_ok 7 (by decide)) rfl rfl (Nat.le_of_ble_eq_true rfl) (by rw [ent_8 (show sK (uR S 807 a (some v)) a = 8 from hK)]; simp [fI_uI, fJ_uI, fR_uI, fI_uJ, fJ_uJ, fR_uJ, fI_uR, fJ_uR, fR_uR, va_rf]) uR_ne (fun _ h => h) d hn kk
theorem sX8_32 (C : Cx p l s m args meth c cc nL RX8 ret G b) {n a : Nat} {v : Nat} (hi : meth.name = "<init>") (hK : sK S a = 8) (d : decode cc pc = .ok (.putfield 32, 3)) (hn : pc + 3 = n) (kk : J p l e R s m args below meth c nL G b Q n lv st (uR S 808 a (some v)) cells slots) : J p l e R s m args below meth c nL G b Q pc lv (.ref v :: .ref a :: st) S cells slots := 
  r_put (S' := uR S 808 a (some v)) (T := TX8) (Cn := RX8) (ty0 := tyX8) (ty := tyX8 8) C (by rw [hK]; decide) (ent_8 hK) rfl 8 (by decide) inb_8 tyX8_ok nmX8 (show (Cond.fieldLink RX8 32 RX8 "states" "[I").before args s = true from (C.w (mem_tb (mem_tbl 758 (by decide +kernel)) (by decide +kernel)))) (fun _ h => h) (Or.inr ⟨rfl, hi, rfl⟩) (tyX8_ok 8 (by decide)) rfl rfl (Nat.le_of_ble_eq_true rfl) (by rw [ent_8 (show sK (uR S 808 a (some v)) a = 8 from hK)]; simp [fI_uI, fJ_uI, fR_uI, fI_uJ, fJ_uJ, fR_uJ, fI_uR, fJ_uR, fR_uR, va_rf]) uR_ne (fun _ h => h) d hn kk
theorem sX8_35 (C : Cx p l s m args meth c cc nL RX8 ret G b) {n a : Nat} {v : Nat} (hi : meth.name = "<init>") (hK : sK S a = 8) (d : decode cc pc = .ok (.putfield 35, 3)) (hn : pc + 3 = n) (kk : J p l e R s m args below meth c nL G b Q n lv st (uR S 809 a (some v)) cells slots) : J p l e R s m args below meth c nL G b Q pc lv (.ref v :: .ref a :: st) S cells slots := 
  r_put (S' := uR S 809 a (some v)) (T := TX8) (Cn := RX8) (ty0 := tyX8) (ty := tyX8 9) C (by rw [hK]; decide) (ent_8 hK) rfl 9 (by decide) inb_8 tyX8_ok nmX8 (show (Cond.fieldLink RX8 35 RX8 "late" "[I").before args s = true from (C.w (mem_tb (mem_tbl 759 (by decide +kernel)) (by decide +kernel)))) (fun _ h => h) (Or.inr ⟨rfl, hi, rfl⟩) (tyX8_ok 9 (by decide)) rfl rfl (Nat.le_of_ble_eq_true rfl) (by rw [ent_8 (show sK (uR S 809 a (some v)) a = 8 from hK)]; simp [fI_uI, fJ_uI, fR_uI, fI_uJ, fJ_uJ, fR_uJ, fI_uR, fJ_uR, fR_uR, va_rf]) uR_ne (fun _ h => h) d hn kk
theorem sX8_38 (C : Cx p l s m args meth c cc nL RX8 ret G b) {n a : Nat} {v : Nat} (hi : meth.name = "<init>") (hK : sK S a = 8) (d : decode cc pc = .ok (.putfield 38, 3)) (hn : pc + 3 = n) (kk : J p l e R s m args below meth c nL G b Q n lv st (uR S 810 a (some v)) cells slots) : J p l e R s m args below meth c nL G b Q pc lv (.ref v :: .ref a :: st) S cells slots := 
  r_put (S' := uR S 810 a (some v)) (T := TX8) (Cn := RX8) (ty0 := tyX8) (ty := tyX8 10) C (by rw [hK]; decide) (ent_8 hK) rfl 10 (by decide) inb_8 tyX8_ok nmX8 (show (Cond.fieldLink RX8 38 RX8 "have" "[I").before args s = true from (C.w (mem_tb (mem_tbl 760 (by decide +kernel)) (by decide +kernel)))) (fun _ h => h) (Or.inr ⟨rfl, hi, rfl⟩) (tyX8_ok 10 (by decide)) rfl rfl (Nat.le_of_ble_eq_true rfl) (by rw [ent_8 (show sK (uR S 810 a (some v)) a = 8 from hK)]; simp [fI_uI, fJ_uI, fR_uI, fI_uJ, fJ_uJ, fR_uJ, fI_uR, fJ_uR, fR_uR, va_rf]) uR_ne (fun _ h => h) d hn kk
theorem sX8_42 (C : Cx p l s m args meth c cc nL RX8 ret G b) {n a : Nat} {v : Nat} (hi : meth.name = "<init>") (hK : sK S a = 8) (d : decode cc pc = .ok (.putfield 42, 3)) (hn : pc + 3 = n) (kk : J p l e R s m args below meth c nL G b Q n lv st (uR S 811 a (some v)) cells slots) : J p l e R s m args below meth c nL G b Q pc lv (.ref v :: .ref a :: st) S cells slots := 
  r_put (S' := uR S 811 a (some v)) (T := TX8) (Cn := RX8) (ty0 := tyX8) (ty := tyX8 11) C (by rw [hK]; decide) (ent_8 hK) rfl 11 (by decide) inb_8 tyX8_ok nmX8 (show (Cond.fieldLink RX8 42 RX8 "left" "[I").before args s = true from (C.w (mem_tb (mem_tbl 761 (by decide +kernel)) (by decide +kernel)))) (fun _ h => h) (Or.inr ⟨rfl, hi, rfl⟩) (tyX8_ok 11 (by decide)) rfl rfl (Nat.le_of_ble_eq_true rfl) (by rw [ent_8 (show sK (uR S 811 a (some v)) a = 8 from hK)]; simp [fI_uI, fJ_uI, fR_uI, fI_uJ, fJ_uJ, fR_uJ, fI_uR, fJ_uR, fR_uR, va_rf]) uR_ne (fun _ h => h) d hn kk
theorem sX8_45 (C : Cx p l s m args meth c cc nL RX8 ret G b) {n a : Nat} {v : Nat} (hi : meth.name = "<init>") (hK : sK S a = 8) (d : decode cc pc = .ok (.putfield 45, 3)) (hn : pc + 3 = n) (kk : J p l e R s m args below meth c nL G b Q n lv st (uR S 812 a (some v)) cells slots) : J p l e R s m args below meth c nL G b Q pc lv (.ref v :: .ref a :: st) S cells slots := 
  r_put (S' := uR S 812 a (some v)) (T := TX8) (Cn := RX8) (ty0 := tyX8) (ty := tyX8 12) C (by rw [hK]; decide) (ent_8 hK) rfl 12 (by decide) inb_8 tyX8_ok nmX8 (show (Cond.fieldLink RX8 45 RX8 "right" "[I").before args s = true from (C.w (mem_tb (mem_tbl 762 (by decide +kernel)) (by decide +kernel)))) (fun _ h => h) (Or.inr ⟨rfl, hi, rfl⟩) (tyX8_ok 12 (by decide)) rfl rfl (Nat.le_of_ble_eq_true rfl) (by rw [ent_8 (show sK (uR S 812 a (some v)) a = 8 from hK)]; simp [fI_uI, fJ_uI, fR_uI, fI_uJ, fJ_uJ, fR_uJ, fI_uR, fJ_uR, fR_uR, va_rf]) uR_ne (fun _ h => h) d hn kk
theorem sX8_48 (C : Cx p l s m args meth c cc nL RX8 ret G b) {n a : Nat} {v : Nat} (hi : meth.name = "<init>") (hK : sK S a = 8) (d : decode cc pc = .ok (.putfield 48, 3)) (hn : pc + 3 = n) (kk : J p l e R s m args below meth c nL G b Q n lv st (uR S 813 a (some v)) cells slots) : J p l e R s m args below meth c nL G b Q pc lv (.ref v :: .ref a :: st) S cells slots := 
  r_put (S' := uR S 813 a (some v)) (T := TX8) (Cn := RX8) (ty0 := tyX8) (ty := tyX8 13) C (by rw [hK]; decide) (ent_8 hK) rfl 13 (by decide) inb_8 tyX8_ok nmX8 (show (Cond.fieldLink RX8 48 RX8 "isHalf" "[Z").before args s = true from (C.w (mem_tb (mem_tbl 763 (by decide +kernel)) (by decide +kernel)))) (fun _ h => h) (Or.inr ⟨rfl, hi, rfl⟩) (tyX8_ok 13 (by decide)) rfl rfl (Nat.le_of_ble_eq_true rfl) (by rw [ent_8 (show sK (uR S 813 a (some v)) a = 8 from hK)]; simp [fI_uI, fJ_uI, fR_uI, fI_uJ, fJ_uJ, fR_uJ, fI_uR, fJ_uR, fR_uR, va_rf]) uR_ne (fun _ h => h) d hn kk
theorem sX8_51 (C : Cx p l s m args meth c cc nL RX8 ret G b) {n a : Nat} {v : Nat} (hi : meth.name = "<init>") (hK : sK S a = 8) (d : decode cc pc = .ok (.putfield 51, 3)) (hn : pc + 3 = n) (kk : J p l e R s m args below meth c nL G b Q n lv st (uR S 814 a (some v)) cells slots) : J p l e R s m args below meth c nL G b Q pc lv (.ref v :: .ref a :: st) S cells slots := 
  r_put (S' := uR S 814 a (some v)) (T := TX8) (Cn := RX8) (ty0 := tyX8) (ty := tyX8 14) C (by rw [hK]; decide) (ent_8 hK) rfl 14 (by decide) inb_8 tyX8_ok nmX8 (show (Cond.fieldLink RX8 51 RX8 "half" "[I").before args s = true from (C.w (mem_tb (mem_tbl 764 (by decide +kernel)) (by decide +kernel)))) (fun _ h => h) (Or.inr ⟨rfl, hi, rfl⟩) (tyX8_ok 14 (by decide)) rfl rfl (Nat.le_of_ble_eq_true rfl) (by rw [ent_8 (show sK (uR S 814 a (some v)) a = 8 from hK)]; simp [fI_uI, fJ_uI, fR_uI, fI_uJ, fJ_uJ, fR_uJ, fI_uR, fJ_uR, fR_uR, va_rf]) uR_ne (fun _ h => h) d hn kk
theorem sX8_54 (C : Cx p l s m args meth c cc nL RX8 ret G b) {n a : Nat} {v : Nat} (hi : meth.name = "<init>") (hK : sK S a = 8) (d : decode cc pc = .ok (.putfield 54, 3)) (hn : pc + 3 = n) (kk : J p l e R s m args below meth c nL G b Q n lv st (uR S 815 a (some v)) cells slots) : J p l e R s m args below meth c nL G b Q pc lv (.ref v :: .ref a :: st) S cells slots := 
  r_put (S' := uR S 815 a (some v)) (T := TX8) (Cn := RX8) (ty0 := tyX8) (ty := tyX8 15) C (by rw [hK]; decide) (ent_8 hK) rfl 15 (by decide) inb_8 tyX8_ok nmX8 (show (Cond.fieldLink RX8 54 RX8 "next" "[I").before args s = true from (C.w (mem_tb (mem_tbl 765 (by decide +kernel)) (by decide +kernel)))) (fun _ h => h) (Or.inr ⟨rfl, hi, rfl⟩) (tyX8_ok 15 (by decide)) rfl rfl (Nat.le_of_ble_eq_true rfl) (by rw [ent_8 (show sK (uR S 815 a (some v)) a = 8 from hK)]; simp [fI_uI, fJ_uI, fR_uI, fI_uJ, fJ_uJ, fR_uJ, fI_uR, fJ_uR, fR_uR, va_rf]) uR_ne (fun _ h => h) d hn kk
theorem sX8_57 (C : Cx p l s m args meth c cc nL RX8 ret G b) {n a : Nat} {v : Nat} (hi : meth.name = "<init>") (hK : sK S a = 8) (d : decode cc pc = .ok (.putfield 57, 3)) (hn : pc + 3 = n) (kk : J p l e R s m args below meth c nL G b Q n lv st (uR S 816 a (some v)) cells slots) : J p l e R s m args below meth c nL G b Q pc lv (.ref v :: .ref a :: st) S cells slots := 
  r_put (S' := uR S 816 a (some v)) (T := TX8) (Cn := RX8) (ty0 := tyX8) (ty := tyX8 16) C (by rw [hK]; decide) (ent_8 hK) rfl 16 (by decide) inb_8 tyX8_ok nmX8 (show (Cond.fieldLink RX8 57 RX8 "lastLeft" "[I").before args s = true from (C.w (mem_tb (mem_tbl 766 (by decide +kernel)) (by decide +kernel)))) (fun _ h => h) (Or.inr ⟨rfl, hi, rfl⟩) (tyX8_ok 16 (by decide)) rfl rfl (Nat.le_of_ble_eq_true rfl) (by rw [ent_8 (show sK (uR S 816 a (some v)) a = 8 from hK)]; simp [fI_uI, fJ_uI, fR_uI, fI_uJ, fJ_uJ, fR_uJ, fI_uR, fJ_uR, fR_uR, va_rf]) uR_ne (fun _ h => h) d hn kk
theorem sX8_60 (C : Cx p l s m args meth c cc nL RX8 ret G b) {n a : Nat} {v : Nat} (hi : meth.name = "<init>") (hK : sK S a = 8) (d : decode cc pc = .ok (.putfield 60, 3)) (hn : pc + 3 = n) (kk : J p l e R s m args below meth c nL G b Q n lv st (uR S 817 a (some v)) cells slots) : J p l e R s m args below meth c nL G b Q pc lv (.ref v :: .ref a :: st) S cells slots := 
  r_put (S' := uR S 817 a (some v)) (T := TX8) (Cn := RX8) (ty0 := tyX8) (ty := tyX8 17) C (by rw [hK]; decide) (ent_8 hK) rfl 17 (by decide) inb_8 tyX8_ok nmX8 (show (Cond.fieldLink RX8 60 RX8 "lastRight" "[I").before args s = true from (C.w (mem_tb (mem_tbl 767 (by decide +kernel)) (by decide +kernel)))) (fun _ h => h) (Or.inr ⟨rfl, hi, rfl⟩) (tyX8_ok 17 (by decide)) rfl rfl (Nat.le_of_ble_eq_true rfl) (by rw [ent_8 (show sK (uR S 817 a (some v)) a = 8 from hK)]; simp [fI_uI, fJ_uI, fR_uI, fI_uJ, fJ_uJ, fR_uJ, fI_uR, fJ_uR, fR_uR, va_rf]) uR_ne (fun _ h => h) d hn kk
theorem sX8_63 (C : Cx p l s m args meth c cc nL RX8 ret G b) {n a : Nat} {v : Nat} (hi : meth.name = "<init>") (hK : sK S a = 8) (d : decode cc pc = .ok (.putfield 63, 3)) (hn : pc + 3 = n) (kk : J p l e R s m args below meth c nL G b Q n lv st (uR S 818 a (some v)) cells slots) : J p l e R s m args below meth c nL G b Q pc lv (.ref v :: .ref a :: st) S cells slots := 
  r_put (S' := uR S 818 a (some v)) (T := TX8) (Cn := RX8) (ty0 := tyX8) (ty := tyX8 18) C (by rw [hK]; decide) (ent_8 hK) rfl 18 (by decide) inb_8 tyX8_ok nmX8 (show (Cond.fieldLink RX8 63 RX8 "out" "[I").before args s = true from (C.w (mem_tb (mem_tbl 768 (by decide +kernel)) (by decide +kernel)))) (fun _ h => h) (Or.inr ⟨rfl, hi, rfl⟩) (tyX8_ok 18 (by decide)) rfl rfl (Nat.le_of_ble_eq_true rfl) (by rw [ent_8 (show sK (uR S 818 a (some v)) a = 8 from hK)]; simp [fI_uI, fJ_uI, fR_uI, fI_uJ, fJ_uJ, fR_uJ, fI_uR, fJ_uR, fR_uR, va_rf]) uR_ne (fun _ h => h) d hn kk
theorem sX8_66 (C : Cx p l s m args meth c cc nL RX8 ret G b) {n a : Nat} {v : Nat} (hi : meth.name = "<init>") (hK : sK S a = 8) (d : decode cc pc = .ok (.putfield 66, 3)) (hn : pc + 3 = n) (kk : J p l e R s m args below meth c nL G b Q n lv st (uR S 819 a (some v)) cells slots) : J p l e R s m args below meth c nL G b Q pc lv (.ref v :: .ref a :: st) S cells slots := 
  r_put (S' := uR S 819 a (some v)) (T := TX8) (Cn := RX8) (ty0 := tyX8) (ty := tyX8 19) C (by rw [hK]; decide) (ent_8 hK) rfl 19 (by decide) inb_8 tyX8_ok nmX8 (show (Cond.fieldLink RX8 66 RX8 "levels" "[D").before args s = true from (C.w (mem_tb (mem_tbl 769 (by decide +kernel)) (by decide +kernel)))) (fun _ h => h) (Or.inr ⟨rfl, hi, rfl⟩) (tyX8_ok 19 (by decide)) rfl rfl (Nat.le_of_ble_eq_true rfl) (by rw [ent_8 (show sK (uR S 819 a (some v)) a = 8 from hK)]; simp [fI_uI, fJ_uI, fR_uI, fI_uJ, fJ_uJ, fR_uJ, fI_uR, fJ_uR, fR_uR, va_rf]) uR_ne (fun _ h => h) d hn kk
theorem sX8_70 (C : Cx p l s m args meth c cc nL RX8 ret G b) {n a : Nat} {v : Nat} (hi : meth.name = "<init>") (hK : sK S a = 8) (d : decode cc pc = .ok (.putfield 70, 3)) (hn : pc + 3 = n) (kk : J p l e R s m args below meth c nL G b Q n lv st (uR S 820 a (some v)) cells slots) : J p l e R s m args below meth c nL G b Q pc lv (.ref v :: .ref a :: st) S cells slots := 
  r_put (S' := uR S 820 a (some v)) (T := TX8) (Cn := RX8) (ty0 := tyX8) (ty := tyX8 20) C (by rw [hK]; decide) (ent_8 hK) rfl 20 (by decide) inb_8 tyX8_ok nmX8 (show (Cond.fieldLink RX8 70 RX8 "reckoned" "[I").before args s = true from (C.w (mem_tb (mem_tbl 770 (by decide +kernel)) (by decide +kernel)))) (fun _ h => h) (Or.inr ⟨rfl, hi, rfl⟩) (tyX8_ok 20 (by decide)) rfl rfl (Nat.le_of_ble_eq_true rfl) (by rw [ent_8 (show sK (uR S 820 a (some v)) a = 8 from hK)]; simp [fI_uI, fJ_uI, fR_uI, fI_uJ, fJ_uJ, fR_uJ, fI_uR, fJ_uR, fR_uR, va_rf]) uR_ne (fun _ h => h) d hn kk
theorem sX8_73 (C : Cx p l s m args meth c cc nL RX8 ret G b) {n a : Nat} {v : Nat} (hi : meth.name = "<init>") (hK : sK S a = 8) (d : decode cc pc = .ok (.putfield 73, 3)) (hn : pc + 3 = n) (kk : J p l e R s m args below meth c nL G b Q n lv st (uR S 821 a (some v)) cells slots) : J p l e R s m args below meth c nL G b Q pc lv (.ref v :: .ref a :: st) S cells slots := 
  r_put (S' := uR S 821 a (some v)) (T := TX8) (Cn := RX8) (ty0 := tyX8) (ty := tyX8 21) C (by rw [hK]; decide) (ent_8 hK) rfl 21 (by decide) inb_8 tyX8_ok nmX8 (show (Cond.fieldLink RX8 73 RX8 "ready" "[I").before args s = true from (C.w (mem_tb (mem_tbl 771 (by decide +kernel)) (by decide +kernel)))) (fun _ h => h) (Or.inr ⟨rfl, hi, rfl⟩) (tyX8_ok 21 (by decide)) rfl rfl (Nat.le_of_ble_eq_true rfl) (by rw [ent_8 (show sK (uR S 821 a (some v)) a = 8 from hK)]; simp [fI_uI, fJ_uI, fR_uI, fI_uJ, fJ_uJ, fR_uJ, fI_uR, fJ_uR, fR_uR, va_rf]) uR_ne (fun _ h => h) d hn kk
theorem sX8_76 (C : Cx p l s m args meth c cc nL RX8 ret G b) {n a : Nat} {v : Nat} (hi : meth.name = "<init>") (hK : sK S a = 8) (d : decode cc pc = .ok (.putfield 76, 3)) (hn : pc + 3 = n) (kk : J p l e R s m args below meth c nL G b Q n lv st (uR S 822 a (some v)) cells slots) : J p l e R s m args below meth c nL G b Q pc lv (.ref v :: .ref a :: st) S cells slots := 
  r_put (S' := uR S 822 a (some v)) (T := TX8) (Cn := RX8) (ty0 := tyX8) (ty := tyX8 22) C (by rw [hK]; decide) (ent_8 hK) rfl 22 (by decide) inb_8 tyX8_ok nmX8 (show (Cond.fieldLink RX8 76 RX8 "readyAt" "[I").before args s = true from (C.w (mem_tb (mem_tbl 772 (by decide +kernel)) (by decide +kernel)))) (fun _ h => h) (Or.inr ⟨rfl, hi, rfl⟩) (tyX8_ok 22 (by decide)) rfl rfl (Nat.le_of_ble_eq_true rfl) (by rw [ent_8 (show sK (uR S 822 a (some v)) a = 8 from hK)]; simp [fI_uI, fJ_uI, fR_uI, fI_uJ, fJ_uJ, fR_uJ, fI_uR, fJ_uR, fR_uR, va_rf]) uR_ne (fun _ h => h) d hn kk
theorem sX8_79 (C : Cx p l s m args meth c cc nL RX8 ret G b) {n a : Nat} {v : Nat} (hi : meth.name = "<init>") (hK : sK S a = 8) (d : decode cc pc = .ok (.putfield 79, 3)) (hn : pc + 3 = n) (kk : J p l e R s m args below meth c nL G b Q n lv st (uR S 823 a (some v)) cells slots) : J p l e R s m args below meth c nL G b Q pc lv (.ref v :: .ref a :: st) S cells slots := 
  r_put (S' := uR S 823 a (some v)) (T := TX8) (Cn := RX8) (ty0 := tyX8) (ty := tyX8 23) C (by rw [hK]; decide) (ent_8 hK) rfl 23 (by decide) inb_8 tyX8_ok nmX8 (show (Cond.fieldLink RX8 79 RX8 "readWholly" "[I").before args s = true from (C.w (mem_tb (mem_tbl 773 (by decide +kernel)) (by decide +kernel)))) (fun _ h => h) (Or.inr ⟨rfl, hi, rfl⟩) (tyX8_ok 23 (by decide)) rfl rfl (Nat.le_of_ble_eq_true rfl) (by rw [ent_8 (show sK (uR S 823 a (some v)) a = 8 from hK)]; simp [fI_uI, fJ_uI, fR_uI, fI_uJ, fJ_uJ, fR_uJ, fI_uR, fJ_uR, fR_uR, va_rf]) uR_ne (fun _ h => h) d hn kk
theorem sX8_82 (C : Cx p l s m args meth c cc nL RX8 ret G b) {n a : Nat} {v : Nat} (hi : meth.name = "<init>") (hK : sK S a = 8) (d : decode cc pc = .ok (.putfield 82, 3)) (hn : pc + 3 = n) (kk : J p l e R s m args below meth c nL G b Q n lv st (uR S 825 a (some v)) cells slots) : J p l e R s m args below meth c nL G b Q pc lv (.ref v :: .ref a :: st) S cells slots := 
  r_put (S' := uR S 825 a (some v)) (T := TX8) (Cn := RX8) (ty0 := tyX8) (ty := tyX8 25) C (by rw [hK]; decide) (ent_8 hK) rfl 25 (by decide) inb_8 tyX8_ok nmX8 (show (Cond.fieldLink RX8 82 RX8 "readyLeft" "[I").before args s = true from (C.w (mem_tb (mem_tbl 775 (by decide +kernel)) (by decide +kernel)))) (fun _ h => h) (Or.inr ⟨rfl, hi, rfl⟩) (tyX8_ok 25 (by decide)) rfl rfl (Nat.le_of_ble_eq_true rfl) (by rw [ent_8 (show sK (uR S 825 a (some v)) a = 8 from hK)]; simp [fI_uI, fJ_uI, fR_uI, fI_uJ, fJ_uJ, fR_uJ, fI_uR, fJ_uR, fR_uR, va_rf]) uR_ne (fun _ h => h) d hn kk
theorem sX8_85 (C : Cx p l s m args meth c cc nL RX8 ret G b) {n a : Nat} {v : Nat} (hi : meth.name = "<init>") (hK : sK S a = 8) (d : decode cc pc = .ok (.putfield 85, 3)) (hn : pc + 3 = n) (kk : J p l e R s m args below meth c nL G b Q n lv st (uR S 826 a (some v)) cells slots) : J p l e R s m args below meth c nL G b Q pc lv (.ref v :: .ref a :: st) S cells slots := 
  r_put (S' := uR S 826 a (some v)) (T := TX8) (Cn := RX8) (ty0 := tyX8) (ty := tyX8 26) C (by rw [hK]; decide) (ent_8 hK) rfl 26 (by decide) inb_8 tyX8_ok nmX8 (show (Cond.fieldLink RX8 85 RX8 "readyRight" "[I").before args s = true from (C.w (mem_tb (mem_tbl 776 (by decide +kernel)) (by decide +kernel)))) (fun _ h => h) (Or.inr ⟨rfl, hi, rfl⟩) (tyX8_ok 26 (by decide)) rfl rfl (Nat.le_of_ble_eq_true rfl) (by rw [ent_8 (show sK (uR S 826 a (some v)) a = 8 from hK)]; simp [fI_uI, fJ_uI, fR_uI, fI_uJ, fJ_uJ, fR_uJ, fI_uR, fJ_uR, fR_uR, va_rf]) uR_ne (fun _ h => h) d hn kk
theorem sX8_88 (C : Cx p l s m args meth c cc nL RX8 ret G b) {n a : Nat} {v : Nat} (hi : meth.name = "<init>") (hK : sK S a = 8) (d : decode cc pc = .ok (.putfield 88, 3)) (hn : pc + 3 = n) (kk : J p l e R s m args below meth c nL G b Q n lv st (uR S 827 a (some v)) cells slots) : J p l e R s m args below meth c nL G b Q pc lv (.ref v :: .ref a :: st) S cells slots := 
  r_put (S' := uR S 827 a (some v)) (T := TX8) (Cn := RX8) (ty0 := tyX8) (ty := tyX8 27) C (by rw [hK]; decide) (ent_8 hK) rfl 27 (by decide) inb_8 tyX8_ok nmX8 (show (Cond.fieldLink RX8 88 RX8 "readyOut" "[I").before args s = true from (C.w (mem_tb (mem_tbl 777 (by decide +kernel)) (by decide +kernel)))) (fun _ h => h) (Or.inr ⟨rfl, hi, rfl⟩) (tyX8_ok 27 (by decide)) rfl rfl (Nat.le_of_ble_eq_true rfl) (by rw [ent_8 (show sK (uR S 827 a (some v)) a = 8 from hK)]; simp [fI_uI, fJ_uI, fR_uI, fI_uJ, fJ_uJ, fR_uJ, fI_uR, fJ_uR, fR_uR, va_rf]) uR_ne (fun _ h => h) d hn kk
theorem sX8_91 (C : Cx p l s m args meth c cc nL RX8 ret G b) {n a : Nat} {v : Nat} (hi : meth.name = "<init>") (hK : sK S a = 8) (d : decode cc pc = .ok (.putfield 91, 3)) (hn : pc + 3 = n) (kk : J p l e R s m args below meth c nL G b Q n lv st (uR S 828 a (some v)) cells slots) : J p l e R s m args below meth c nL G b Q pc lv (.ref v :: .ref a :: st) S cells slots := 
  r_put (S' := uR S 828 a (some v)) (T := TX8) (Cn := RX8) (ty0 := tyX8) (ty := tyX8 28) C (by rw [hK]; decide) (ent_8 hK) rfl 28 (by decide) inb_8 tyX8_ok nmX8 (show (Cond.fieldLink RX8 91 RX8 "playedLeft" "[I").before args s = true from (C.w (mem_tb (mem_tbl 778 (by decide +kernel)) (by decide +kernel)))) (fun _ h => h) (Or.inr ⟨rfl, hi, rfl⟩) (tyX8_ok 28 (by decide)) rfl rfl (Nat.le_of_ble_eq_true rfl) (by rw [ent_8 (show sK (uR S 828 a (some v)) a = 8 from hK)]; simp [fI_uI, fJ_uI, fR_uI, fI_uJ, fJ_uJ, fR_uJ, fI_uR, fJ_uR, fR_uR, va_rf]) uR_ne (fun _ h => h) d hn kk
theorem sX8_94 (C : Cx p l s m args meth c cc nL RX8 ret G b) {n a : Nat} {v : Nat} (hi : meth.name = "<init>") (hK : sK S a = 8) (d : decode cc pc = .ok (.putfield 94, 3)) (hn : pc + 3 = n) (kk : J p l e R s m args below meth c nL G b Q n lv st (uR S 829 a (some v)) cells slots) : J p l e R s m args below meth c nL G b Q pc lv (.ref v :: .ref a :: st) S cells slots := 
  r_put (S' := uR S 829 a (some v)) (T := TX8) (Cn := RX8) (ty0 := tyX8) (ty := tyX8 29) C (by rw [hK]; decide) (ent_8 hK) rfl 29 (by decide) inb_8 tyX8_ok nmX8 (show (Cond.fieldLink RX8 94 RX8 "playedRight" "[I").before args s = true from (C.w (mem_tb (mem_tbl 779 (by decide +kernel)) (by decide +kernel)))) (fun _ h => h) (Or.inr ⟨rfl, hi, rfl⟩) (tyX8_ok 29 (by decide)) rfl rfl (Nat.le_of_ble_eq_true rfl) (by rw [ent_8 (show sK (uR S 829 a (some v)) a = 8 from hK)]; simp [fI_uI, fJ_uI, fR_uI, fI_uJ, fJ_uJ, fR_uJ, fI_uR, fJ_uR, fR_uR, va_rf]) uR_ne (fun _ h => h) d hn kk
theorem sX8_97 (C : Cx p l s m args meth c cc nL RX8 ret G b) {n a : Nat} {v : Nat} (hi : meth.name = "<init>") (hK : sK S a = 8) (d : decode cc pc = .ok (.putfield 97, 3)) (hn : pc + 3 = n) (kk : J p l e R s m args below meth c nL G b Q n lv st (uR S 830 a (some v)) cells slots) : J p l e R s m args below meth c nL G b Q pc lv (.ref v :: .ref a :: st) S cells slots := 
  r_put (S' := uR S 830 a (some v)) (T := TX8) (Cn := RX8) (ty0 := tyX8) (ty := tyX8 30) C (by rw [hK]; decide) (ent_8 hK) rfl 30 (by decide) inb_8 tyX8_ok nmX8 (show (Cond.fieldLink RX8 97 RX8 "comingLeft" "[I").before args s = true from (C.w (mem_tb (mem_tbl 780 (by decide +kernel)) (by decide +kernel)))) (fun _ h => h) (Or.inr ⟨rfl, hi, rfl⟩) (tyX8_ok 30 (by decide)) rfl rfl (Nat.le_of_ble_eq_true rfl) (by rw [ent_8 (show sK (uR S 830 a (some v)) a = 8 from hK)]; simp [fI_uI, fJ_uI, fR_uI, fI_uJ, fJ_uJ, fR_uJ, fI_uR, fJ_uR, fR_uR, va_rf]) uR_ne (fun _ h => h) d hn kk
theorem sX8_100 (C : Cx p l s m args meth c cc nL RX8 ret G b) {n a : Nat} {v : Nat} (hi : meth.name = "<init>") (hK : sK S a = 8) (d : decode cc pc = .ok (.putfield 100, 3)) (hn : pc + 3 = n) (kk : J p l e R s m args below meth c nL G b Q n lv st (uR S 831 a (some v)) cells slots) : J p l e R s m args below meth c nL G b Q pc lv (.ref v :: .ref a :: st) S cells slots := 
  r_put (S' := uR S 831 a (some v)) (T := TX8) (Cn := RX8) (ty0 := tyX8) (ty := tyX8 31) C (by rw [hK]; decide) (ent_8 hK) rfl 31 (by decide) inb_8 tyX8_ok nmX8 (show (Cond.fieldLink RX8 100 RX8 "comingRight" "[I").before args s = true from (C.w (mem_tb (mem_tbl 781 (by decide +kernel)) (by decide +kernel)))) (fun _ h => h) (Or.inr ⟨rfl, hi, rfl⟩) (tyX8_ok 31 (by decide)) rfl rfl (Nat.le_of_ble_eq_true rfl) (by rw [ent_8 (show sK (uR S 831 a (some v)) a = 8 from hK)]; simp [fI_uI, fJ_uI, fR_uI, fI_uJ, fJ_uJ, fR_uJ, fI_uR, fJ_uR, fR_uR, va_rf]) uR_ne (fun _ h => h) d hn kk
theorem sX8_103 (C : Cx p l s m args meth c cc nL RX8 ret G b) {n a : Nat} {v : Int32} (hK : sK S a = 8) (hz : narrow .boolean (.int v) = .int v) (hz2 : fits .boolean (.int v) = true) (d : decode cc pc = .ok (.putfield 103, 3)) (hn : pc + 3 = n) (kk : J p l e R s m args below meth c nL G b Q n lv st (uI S 832 a v) cells slots) : J p l e R s m args below meth c nL G b Q pc lv (.int v :: .ref a :: st) S cells slots := 
  r_put (S' := uI S 832 a v) (T := TX8) (Cn := RX8) (ty0 := tyX8) (ty := tyX8 32) C (by rw [hK]; decide) (ent_8 hK) rfl 32 (by decide) inb_8 tyX8_ok nmX8 (show (Cond.fieldLink RX8 103 RX8 "limits" "Z").before args s = true from (C.w (mem_tb (mem_tbl 782 (by decide +kernel)) (by decide +kernel)))) (fun _ h => h) (Or.inl rfl) (tyX8_ok 32 (by decide)) hz hz2 (Nat.le_of_ble_eq_true rfl) (by rw [ent_8 (show sK (uI S 832 a v) a = 8 from hK)]; simp [fI_uI, fJ_uI, fR_uI, fI_uJ, fJ_uJ, fR_uJ, fI_uR, fJ_uR, fR_uR, va_rf]) uI_ne (fun _ h => h) d hn kk
theorem sX8_107 (C : Cx p l s m args meth c cc nL RX8 ret G b) {n a : Nat} {v : Int32} (hK : sK S a = 8) (d : decode cc pc = .ok (.putfield 107, 3)) (hn : pc + 3 = n) (kk : J p l e R s m args below meth c nL G b Q n lv st (uI S 833 a v) cells slots) : J p l e R s m args below meth c nL G b Q pc lv (.int v :: .ref a :: st) S cells slots := 
  r_put (S' := uI S 833 a v) (T := TX8) (Cn := RX8) (ty0 := tyX8) (ty := tyX8 33) C (by rw [hK]; decide) (ent_8 hK) rfl 33 (by decide) inb_8 tyX8_ok nmX8 (show (Cond.fieldLink RX8 107 RX8 "value" "I").before args s = true from (C.w (mem_tb (mem_tbl 783 (by decide +kernel)) (by decide +kernel)))) (fun _ h => h) (Or.inl rfl) (tyX8_ok 33 (by decide)) rfl rfl (Nat.le_of_ble_eq_true rfl) (by rw [ent_8 (show sK (uI S 833 a v) a = 8 from hK)]; simp [fI_uI, fJ_uI, fR_uI, fI_uJ, fJ_uJ, fR_uJ, fI_uR, fJ_uR, fR_uR, va_rf]) uI_ne (fun _ h => h) d hn kk
theorem sX8_111 (C : Cx p l s m args meth c cc nL RX8 ret G b) {n a : Nat} {v : Nat} (hi : meth.name = "<init>") (hK : sK S a = 8) (d : decode cc pc = .ok (.putfield 111, 3)) (hn : pc + 3 = n) (kk : J p l e R s m args below meth c nL G b Q n lv st (uR S 836 a (some v)) cells slots) : J p l e R s m args below meth c nL G b Q pc lv (.ref v :: .ref a :: st) S cells slots := 
  r_put (S' := uR S 836 a (some v)) (T := TX8) (Cn := RX8) (ty0 := tyX8) (ty := tyX8 36) C (by rw [hK]; decide) (ent_8 hK) rfl 36 (by decide) inb_8 tyX8_ok nmX8 (show (Cond.fieldLink RX8 111 RX8 "sumLeft" "[I").before args s = true from (C.w (mem_tb (mem_tbl 786 (by decide +kernel)) (by decide +kernel)))) (fun _ h => h) (Or.inr ⟨rfl, hi, rfl⟩) (tyX8_ok 36 (by decide)) rfl rfl (Nat.le_of_ble_eq_true rfl) (by rw [ent_8 (show sK (uR S 836 a (some v)) a = 8 from hK)]; simp [fI_uI, fJ_uI, fR_uI, fI_uJ, fJ_uJ, fR_uJ, fI_uR, fJ_uR, fR_uR, va_rf]) uR_ne (fun _ h => h) d hn kk
theorem sX8_114 (C : Cx p l s m args meth c cc nL RX8 ret G b) {n a : Nat} {v : Nat} (hi : meth.name = "<init>") (hK : sK S a = 8) (d : decode cc pc = .ok (.putfield 114, 3)) (hn : pc + 3 = n) (kk : J p l e R s m args below meth c nL G b Q n lv st (uR S 837 a (some v)) cells slots) : J p l e R s m args below meth c nL G b Q pc lv (.ref v :: .ref a :: st) S cells slots := 
  r_put (S' := uR S 837 a (some v)) (T := TX8) (Cn := RX8) (ty0 := tyX8) (ty := tyX8 37) C (by rw [hK]; decide) (ent_8 hK) rfl 37 (by decide) inb_8 tyX8_ok nmX8 (show (Cond.fieldLink RX8 114 RX8 "sumRight" "[I").before args s = true from (C.w (mem_tb (mem_tbl 787 (by decide +kernel)) (by decide +kernel)))) (fun _ h => h) (Or.inr ⟨rfl, hi, rfl⟩) (tyX8_ok 37 (by decide)) rfl rfl (Nat.le_of_ble_eq_true rfl) (by rw [ent_8 (show sK (uR S 837 a (some v)) a = 8 from hK)]; simp [fI_uI, fJ_uI, fR_uI, fI_uJ, fJ_uJ, fR_uJ, fI_uR, fJ_uR, fR_uR, va_rf]) uR_ne (fun _ h => h) d hn kk
theorem sX8_117 (C : Cx p l s m args meth c cc nL RX8 ret G b) {n a : Nat} {v : Nat} (hi : meth.name = "<init>") (hK : sK S a = 8) (d : decode cc pc = .ok (.putfield 117, 3)) (hn : pc + 3 = n) (kk : J p l e R s m args below meth c nL G b Q n lv st (uR S 838 a (some v)) cells slots) : J p l e R s m args below meth c nL G b Q pc lv (.ref v :: .ref a :: st) S cells slots := 
  r_put (S' := uR S 838 a (some v)) (T := TX8) (Cn := RX8) (ty0 := tyX8) (ty := tyX8 38) C (by rw [hK]; decide) (ent_8 hK) rfl 38 (by decide) inb_8 tyX8_ok nmX8 (show (Cond.fieldLink RX8 117 RX8 "givesLeft" "[I").before args s = true from (C.w (mem_tb (mem_tbl 788 (by decide +kernel)) (by decide +kernel)))) (fun _ h => h) (Or.inr ⟨rfl, hi, rfl⟩) (tyX8_ok 38 (by decide)) rfl rfl (Nat.le_of_ble_eq_true rfl) (by rw [ent_8 (show sK (uR S 838 a (some v)) a = 8 from hK)]; simp [fI_uI, fJ_uI, fR_uI, fI_uJ, fJ_uJ, fR_uJ, fI_uR, fJ_uR, fR_uR, va_rf]) uR_ne (fun _ h => h) d hn kk
theorem sX8_120 (C : Cx p l s m args meth c cc nL RX8 ret G b) {n a : Nat} {v : Nat} (hi : meth.name = "<init>") (hK : sK S a = 8) (d : decode cc pc = .ok (.putfield 120, 3)) (hn : pc + 3 = n) (kk : J p l e R s m args below meth c nL G b Q n lv st (uR S 839 a (some v)) cells slots) : J p l e R s m args below meth c nL G b Q pc lv (.ref v :: .ref a :: st) S cells slots := 
  r_put (S' := uR S 839 a (some v)) (T := TX8) (Cn := RX8) (ty0 := tyX8) (ty := tyX8 39) C (by rw [hK]; decide) (ent_8 hK) rfl 39 (by decide) inb_8 tyX8_ok nmX8 (show (Cond.fieldLink RX8 120 RX8 "givesRight" "[I").before args s = true from (C.w (mem_tb (mem_tbl 789 (by decide +kernel)) (by decide +kernel)))) (fun _ h => h) (Or.inr ⟨rfl, hi, rfl⟩) (tyX8_ok 39 (by decide)) rfl rfl (Nat.le_of_ble_eq_true rfl) (by rw [ent_8 (show sK (uR S 839 a (some v)) a = 8 from hK)]; simp [fI_uI, fJ_uI, fR_uI, fI_uJ, fJ_uJ, fR_uJ, fI_uR, fJ_uR, fR_uR, va_rf]) uR_ne (fun _ h => h) d hn kk
theorem sX8_127 (C : Cx p l s m args meth c cc nL RX8 ret G b) {n a : Nat} {v : Int32} (hK : sK S a = 8) (d : decode cc pc = .ok (.putfield 127, 3)) (hn : pc + 3 = n) (kk : J p l e R s m args below meth c nL G b Q n lv st (uI S 800 a v) cells slots) : J p l e R s m args below meth c nL G b Q pc lv (.int v :: .ref a :: st) S cells slots := 
  r_put (S' := uI S 800 a v) (T := TX8) (Cn := RX8) (ty0 := tyX8) (ty := tyX8 0) C (by rw [hK]; decide) (ent_8 hK) rfl 0 (by decide) inb_8 tyX8_ok nmX8 (show (Cond.fieldLink RX8 127 RX8 "fault" "I").before args s = true from (C.w (mem_tb (mem_tbl 750 (by decide +kernel)) (by decide +kernel)))) (fun _ h => h) (Or.inl rfl) (tyX8_ok 0 (by decide)) rfl rfl (Nat.le_of_ble_eq_true rfl) (by rw [ent_8 (show sK (uI S 800 a v) a = 8 from hK)]; simp [fI_uI, fJ_uI, fR_uI, fI_uJ, fJ_uJ, fR_uJ, fI_uR, fJ_uR, fR_uR, va_rf]) uI_ne (fun _ h => h) d hn kk
theorem sX8_215 (C : Cx p l s m args meth c cc nL RX8 ret G b) {n a : Nat} {v : Int32} (hK : sK S a = 8) (d : decode cc pc = .ok (.putfield 215, 3)) (hn : pc + 3 = n) (kk : J p l e R s m args below meth c nL G b Q n lv st (uI S 835 a v) cells slots) : J p l e R s m args below meth c nL G b Q pc lv (.int v :: .ref a :: st) S cells slots := 
  r_put (S' := uI S 835 a v) (T := TX8) (Cn := RX8) (ty0 := tyX8) (ty := tyX8 35) C (by rw [hK]; decide) (ent_8 hK) rfl 35 (by decide) inb_8 tyX8_ok nmX8 (show (Cond.fieldLink RX8 215 RX8 "clipped" "I").before args s = true from (C.w (mem_tb (mem_tbl 785 (by decide +kernel)) (by decide +kernel)))) (fun _ h => h) (Or.inl rfl) (tyX8_ok 35 (by decide)) rfl rfl (Nat.le_of_ble_eq_true rfl) (by rw [ent_8 (show sK (uI S 835 a v) a = 8 from hK)]; simp [fI_uI, fJ_uI, fR_uI, fI_uJ, fJ_uJ, fR_uJ, fI_uR, fJ_uR, fR_uR, va_rf]) uI_ne (fun _ h => h) d hn kk
theorem sX8_218 (C : Cx p l s m args meth c cc nL RX8 ret G b) {n a : Nat} {v : Int32} (hK : sK S a = 8) (d : decode cc pc = .ok (.putfield 218, 3)) (hn : pc + 3 = n) (kk : J p l e R s m args below meth c nL G b Q n lv st (uI S 834 a v) cells slots) : J p l e R s m args below meth c nL G b Q pc lv (.int v :: .ref a :: st) S cells slots := 
  r_put (S' := uI S 834 a v) (T := TX8) (Cn := RX8) (ty0 := tyX8) (ty := tyX8 34) C (by rw [hK]; decide) (ent_8 hK) rfl 34 (by decide) inb_8 tyX8_ok nmX8 (show (Cond.fieldLink RX8 218 RX8 "made" "I").before args s = true from (C.w (mem_tb (mem_tbl 784 (by decide +kernel)) (by decide +kernel)))) (fun _ h => h) (Or.inl rfl) (tyX8_ok 34 (by decide)) rfl rfl (Nat.le_of_ble_eq_true rfl) (by rw [ent_8 (show sK (uI S 834 a v) a = 8 from hK)]; simp [fI_uI, fJ_uI, fR_uI, fI_uJ, fJ_uJ, fR_uJ, fI_uR, fJ_uR, fR_uR, va_rf]) uI_ne (fun _ h => h) d hn kk
theorem sX8_229 (C : Cx p l s m args meth c cc nL RX8 ret G b) {n a : Nat} {v : Int32} (hK : sK S a = 8) (d : decode cc pc = .ok (.putfield 229, 3)) (hn : pc + 3 = n) (kk : J p l e R s m args below meth c nL G b Q n lv st (uI S 824 a v) cells slots) : J p l e R s m args below meth c nL G b Q pc lv (.int v :: .ref a :: st) S cells slots := 
  r_put (S' := uI S 824 a v) (T := TX8) (Cn := RX8) (ty0 := tyX8) (ty := tyX8 24) C (by rw [hK]; decide) (ent_8 hK) rfl 24 (by decide) inb_8 tyX8_ok nmX8 (show (Cond.fieldLink RX8 229 RX8 "readyPeriods" "I").before args s = true from (C.w (mem_tb (mem_tbl 774 (by decide +kernel)) (by decide +kernel)))) (fun _ h => h) (Or.inl rfl) (tyX8_ok 24 (by decide)) rfl rfl (Nat.le_of_ble_eq_true rfl) (by rw [ent_8 (show sK (uI S 824 a v) a = 8 from hK)]; simp [fI_uI, fJ_uI, fR_uI, fI_uJ, fJ_uJ, fR_uJ, fI_uR, fJ_uR, fR_uR, va_rf]) uI_ne (fun _ h => h) d hn kk
end FLD
end
section
section MOR
variable {p : Program} {l : Launch} {e : Env} {R : Room} {s : State} {m : MethodId} {args : Array Value} {below : List Frame} {meth : Method} {c : Code} {Q : State → Prop} {cc : ByteArray} {nL : Nat} {own : String} {ret : Option FieldType} {G : GG} {b : Nat} {pc : Nat} {lv : List (Nat × Value)} {st : List Value} {S : Sw} {cells slots : Nat}
theorem map_mem {α β : Type} {f g : α → β} : ∀ {l : List α}, l.map f = l.map g → ∀ q ∈ l, f q = g q
  | [], _, q, h => nomatch h
  | a :: l, e, q, h => by
    simp only [List.map_cons, List.cons.injEq] at e
    rcases List.mem_cons.mp h with rfl | h
    · exact e.1
    · exact map_mem e.2 q h
theorem J.to {lv' : List (Nat × Value)} (h : lv'.map (fun q => lv.lookup q.1) = lv'.map (fun q => some q.2)) (k : J p l e R s m args below meth c nL G b Q pc lv' st S cells slots) : J p l e R s m args below meth c nL G b Q pc lv st S cells slots := J.sub (fun q hq => map_mem h q hq) k
theorem Hd.grow {H H1 : Heap} (h : Hd G b S H) (hq : ∀ q : Nat, q < H.size → H1[q]? = H[q]?) : Hd G b S H1 := by
  obtain ⟨L, hP, hD, hL⟩ := h
  exact ⟨L, hP.kept (fun k q hk => hq q.1 ((hP k q hk).lt)), hD, hL⟩
/-! ===== throwing ===== -/
def XNm : List String := ["java/lang/RuntimeException", "java/lang/Exception"]
theorem at_all {ic : Nat} {X : String} (h : (vx_atS RX7 ic X XNm).all (fun w => decide (w ∈ lw_tbl) && (goodWord w || isB w)) = true) : ∀ w ∈ vx_atS RX7 ic X XNm, w ∈ TB ∨ w ∈ BW := fun w hw => by
  have h2 := List.all_eq_true.mp h w hw
  simp only [Bool.and_eq_true, decide_eq_true_eq, Bool.or_eq_true] at h2
  exact h2.2.elim (fun z => Or.inl (mem_tb h2.1 z)) (fun z => Or.inr (mem_bw h2.1 z))
theorem at_1 : ∀ w ∈ vx_atS RX7 65 "java/lang/IllegalArgumentException" XNm, w ∈ TB ∨ w ∈ BW := at_all (by decide +kernel)
theorem at_2 : ∀ w ∈ vx_atS RX7 76 "java/lang/IllegalStateException" XNm, w ∈ TB ∨ w ∈ BW := at_all (by decide +kernel)
theorem at_ot {w : Cond} (h : w ∈ TB ∨ w ∈ BW) : vx_ot w = true := by
  unfold vx_ot
  rcases h with h | h
  · rw [tb_good h, Bool.or_true]
  · rw [bw_on h, Bool.true_or]
theorem r_throw (C : Cx p l s m args meth c cc nL RX7 ret G b) {k ik is ic mc ms : Nat} {tx : String} {Qc : Array Value → State → Outcome → State → Prop} {px : Nat → Prop} (hno : ∀ x ∈ c.exceptionTable.toList, False) (hk : k = 1 ∨ k = 2) (hstr : (is, tx) ∈ STR) (hat : ∀ w ∈ vx_atS RX7 ic (EXn k) XNm, w ∈ TB ∨ w ∈ BW) (w1 : .classLink RX7 ik (EXn k) ∈ TB) (w2 : .initialized (EXn k) ∈ TB)
    (d0 : decode cc pc = .ok (.new ik, 3)) (d3 : decode cc (pc + 3) = .ok (.dup, 1)) (d4 : decode cc (pc + 4) = .ok (.ldc is, 2)) (d6 : decode cc (pc + 6) = .ok (.invokespecial ic, 3)) (d9 : decode cc (pc + 9) = .ok (.athrow, 1))
    (hR : 5 < R.frames ∧ cat st + 82 ≤ R.locals) (hr : cells + 1 ≤ R.cells ∧ slots + 6 ≤ R.slots) (hm : cells + 1 ≤ mc ∧ slots + 6 ≤ ms) (hx : px k) :
    J p l e R s m args below meth c nL G b (vx_MQ below Qc (XCp G b S px) args s mc ms (Ab b)) pc lv st S cells slots := by
  intro ls H locs h1 h2 h3
  obtain ⟨sa, hsa⟩ := C.fx.2.2.1 _ hstr
  have hfit : Bundle.fit (EXn k) = true := by rcases hk with rfl | rfl <;> decide
  have hw : ∀ w ∈ vx_atS RX7 ic (EXn k) XNm, w.before args s = true := fun w hw => (hat w hw).elim (fun h => C.w h) (fun h => C.bw h)
  refine vx_throwS (text := tx) (names := XNm) C.1 C.2.1 C.2.2.2.2.2.2.2.2 C.2.2.2.1 hfit (by decide) (C.w w1) (C.w w2) hsa hw ?_ C.fx.2.2.2.2.1 C.fx.2.2.2.2.2.1 h3 (h1.1.trans C.2.2.1.symm) d0 d3 d4 d6 d9 (fun x hx => (hno x hx).elim) hR.1 (by simpa [XNm, cat] using hR.2) hr.1 hr.2 C.2.2.2.2.2.2.1 ?_ h3.2.2 hm.1 hm.2
  · intro w hw
    rcases List.mem_cons.mp hw with rfl | hw
    · exact at_ot (Or.inl w1)
    · rcases List.mem_cons.mp hw with rfl | hw
      · exact at_ot (Or.inl w2)
      · exact at_ot (hat w hw)
  · intro t hv hz hq
    exact ⟨⟨k, hk, rfl, hx, h2.grow hq⟩, Nat.le_trans h3.1 hz, fun q h4 h5 => by rw [hq q (Nat.lt_of_lt_of_le h4 h3.1)]; exact h3.2.1 q h4 h5⟩
/-- the goal where k has been thrown over this frame -/
def JX (p : Program) (l : Launch) (e : Env) (R : Room) (s : State) (m : MethodId) (args : Array Value) (below : List Frame) (meth : Method) (c : Code) (nL : Nat) (G : GG) (b : Nat) (Q : State → Prop) (k pc : Nat) (lv : List (Nat × Value)) (st : List Value) (S : Sw) (cells slots : Nat) : Prop :=
  ∀ (ls : Array Slot) (H : Heap) (locs : List Loc) (ce : Cell) (q : Addr), lv_has ls nL lv → Hd G b S H → va_S (Ab b) s.heap H locs → H[q]? = some ce → ce.vm = .none → s.vm.findClass (EXn k) = some ce.cls → vx_W p l e R s m args below meth c H locs cells slots Q (F0 m pc ls st) q
theorem JX.out (C : Cx p l s m args meth c cc nL own ret G b) {k mc ms : Nat} {Qc : Array Value → State → Outcome → State → Prop} {px : Nat → Prop} (hno : ∀ x ∈ c.exceptionTable.toList, False) (hk : k = 1 ∨ k = 2) (hm : cells ≤ mc ∧ slots ≤ ms) (hx : px k) :
    JX p l e R s m args below meth c nL G b (vx_MQ below Qc (XCp G b S px) args s mc ms (Ab b)) k pc lv st S cells slots := fun ls H locs ce q h1 h2 h3 h4 h5 h6 =>
  vx_out (fun x hx => (hno x hx).elim) C.2.2.2.2.2.2.1 h4 h5 h6 (fun t ht hv => ⟨⟨k, hk, rfl, hx, by rw [ht]; exact h2⟩, h3.F ht⟩) h3.2.2 hm.1 hm.2
theorem J.runx {n mc ms : Nat} {rest st0 : List Value} {α : Type} {mk : α → Option Value} {post : α → Sw → Prop} {px : Nat → Prop} {av : Array Value} (hr : ∀ (ls : Array Slot) (H : Heap) (locs : List Loc), lv_has ls nL lv → Hd G b S H → va_S (Ab b) s.heap H locs → vx_Run p l e R s m args below meth c H locs cells slots mc ms (F0 m pc ls st0) rest (Qp G b mk post av) (XCp G b S px) (Ab b))
    (hn : pc + 3 = n) (kx : ∀ k, k = 1 ∨ k = 2 → px k → JX p l e R s m args below meth c nL G b Q k pc lv rest S (cells + mc) (slots + ms)) (kk : ∀ (v : α) (S' : Sw), post v S' → J p l e R s m args below meth c nL G b Q n lv ((mk v).toList ++ rest) S' (cells + mc) (slots + ms)) : J p l e R s m args below meth c nL G b Q pc lv st0 S cells slots := by
  subst hn
  intro ls H locs h1 h2 h3 T hT X
  rcases hr ls H locs h1 h2 h3 T hT X with ⟨v, st₀, t, T', L, e0, X', hL, e1, e2, ⟨⟨r, S', hv, hp, hH⟩, hF⟩, go⟩ | ⟨q, st₀, t, T', L, E, ce, e0, X', hL, e1, e2, ⟨⟨k, hk, rfl, hp, hH⟩, hF⟩, hce, hcv, hcl, go⟩
  · cases hv
    obtain ⟨k1, k2, k3⟩ := vx_keep e0 e1 h3 (fun _ _ h => h) (fun _ h => h) hL hF
    obtain ⟨t2, a1, b1⟩ := kk r S' hp ls T'.heap (locs ++ L) h1 (by rw [e1]; exact hH) k3 T' rfl X'
    exact ⟨t2, go t2 a1, b1⟩
  · obtain ⟨k1, k2, k3⟩ := vx_keep e0 e1 h3 (fun _ _ h => h) (fun _ h => h) hL hF
    obtain ⟨t2, a1, b1⟩ := kx k hk hp ls T'.heap (locs ++ L) ce q h1 (by rw [e1]; exact hH) k3 (by rw [e1]; exact hce) hcv hcl T' rfl X'
    exact ⟨t2, go.trans a1, b1⟩
theorem r_callVx (C : Cx p l s m args meth c cc nL own ret G b) {n index nL' k a ci N : Nat} {Cn : String} {T : u_T} {fs : List Value} {y : MethodName} {cc' : ByteArray} {ret' : Option FieldType} {rm : Room} {av rest : List Value} {α : Type} {mk : α → Option Value} {post : α → Sw → Prop} {px : Nat → Prop} (hM : Cth l G b y cc' nL' ret' rm mk (.ref a :: av) S post px)
    (hK : sK S a ≠ 0) (he : ent G S a = .inr (ci, fs)) (hc : vwCl[ci]? = some (Cn, T, N)) (hC : y.cls = Cn)
    (w : .methodLink own index y ∈ TB ∧ .instanceMethod y ∈ TB ∧ .selects Cn y y ∈ TB ∧ .initialized Cn ∈ TB ∧ .code y cc' nL' ret' ∈ TB) (hd : dOk y k) (hR : rm.frames + 1 ≤ R.frames ∧ 8 + (nL' + 11) + rm.locals ≤ R.locals) (hf : cells + rm.cells ≤ R.cells ∧ slots + rm.slots ≤ R.slots) (hk : av.length = k) (hcat : cat rest ≤ 8) (hs : av.reverse ++ .ref a :: rest = st) (d : decode cc pc = .ok (.invokevirtual index, 3)) (hn : pc + 3 = n)
    (kx : ∀ k, k = 1 ∨ k = 2 → px k → JX p l e R s m args below meth c nL G b Q k pc lv rest S (cells + rm.cells) (slots + rm.slots))
    (kk : ∀ (v : α) (S' : Sw), post v S' → J p l e R s m args below meth c nL G b Q n lv ((mk v).toList ++ rest) S' (cells + rm.cells) (slots + rm.slots)) : J p l e R s m args below meth c nL G b Q pc lv st S cells slots := by
  subst hs
  refine J.runx (av := (Value.ref a :: av).toArray) (fun ls H locs h1 h2 h3 => ?_) hn kx kk
  exact vx_runV C.fix hM (cwV k C.2.2.2.2.1 (tb_inT (all_c w.1 (all_c w.2.1 (all_c w.2.2.1 (all_c w.2.2.2.1 (all_c w.2.2.2.2 all_tb)))))) rfl rfl rfl ⟨hC, hd⟩ hR) (C.preV h2 h3 hK he hc) rfl hk h1.1 rfl (lv_room hcat) d hf
theorem r_callSx (C : Cx p l s m args meth c cc nL own ret G b) {n index nL' k : Nat} {y : MethodName} {cc' : ByteArray} {ret' : Option FieldType} {rm : Room} {av rest : List Value} {α : Type} {mk : α → Option Value} {post : α → Sw → Prop} {px : Nat → Prop} (hM : Cth l G b y cc' nL' ret' rm mk av S post px)
    (w : .methodLink own index y ∈ TB ∧ .static y ∈ TB ∧ .initialized y.cls ∈ TB ∧ .code y cc' nL' ret' ∈ TB) (hd : dOk y k) (hR : rm.frames + 1 ≤ R.frames ∧ 8 + (nL' + 11) + rm.locals ≤ R.locals) (hf : cells + rm.cells ≤ R.cells ∧ slots + rm.slots ≤ R.slots) (hk : av.length = k) (hcat : cat rest ≤ 8) (hs : av.reverse ++ rest = st) (d : decode cc pc = .ok (.invokestatic index, 3)) (hn : pc + 3 = n)
    (kx : ∀ k, k = 1 ∨ k = 2 → px k → JX p l e R s m args below meth c nL G b Q k pc lv rest S (cells + rm.cells) (slots + rm.slots))
    (kk : ∀ (v : α) (S' : Sw), post v S' → J p l e R s m args below meth c nL G b Q n lv ((mk v).toList ++ rest) S' (cells + rm.cells) (slots + rm.slots)) : J p l e R s m args below meth c nL G b Q pc lv st S cells slots := by
  subst hs
  refine J.runx (av := av.toArray) (fun ls H locs h1 h2 h3 => ?_) hn kx kk
  exact vx_runS C.fix hM (va_cwS k C.2.2.2.2.1 (tb_inT (all_c w.1 (all_c w.2.1 (all_c w.2.2.1 (all_c w.2.2.2 all_tb))))) rfl rfl rfl hd hR) (C.preS h2 h3) rfl hk h1.1 rfl (lv_room hcat) d hf
/-! ===== is it one ===== -/
theorem cell_of (C : Cx p l s m args meth c cc nL own ret G b) {H : Heap} {a ci : Nat} {q : vw_C} {fs : List Value} (h2 : Hd G b S H) (hK : sK S a ≠ 0) (he : ent G S a = .inr (ci, fs)) (hc : vwCl[ci]? = some q) : ∃ cell : Cell, H[a]? = some cell ∧ cell.vm.isStatics = false ∧ s.vm.findClass q.1 = some cell.cls := by
  obtain ⟨ws, k, hP, hD, hq, -, -⟩ := h2.at hK
  rw [he] at hq
  exact va_recv C.K hP hc hq
theorem r_instY (C : Cx p l s m args meth c cc nL own ret G b) {n a ci index : Nat} {q : vw_C} {fs : List Value} (w : .classLink own index q.1 ∈ TB) (w2 : .castable q.1 q.1 ∈ BW) (hK : sK S a ≠ 0) (he : ent G S a = .inr (ci, fs)) (hc : vwCl[ci]? = some q) (d : decode cc pc = .ok (.instanceof index, 3)) (hn : pc + 3 = n)
    (kk : J p l e R s m args below meth c nL G b Q n lv (.int 1 :: st) S cells slots) : J p l e R s m args below meth c nL G b Q pc lv (.ref a :: st) S cells slots := by
  subst hn
  intro ls H locs h1 h2 h3
  exact va_instY C.1 C.2.1 C.2.2.2.1 (C.w w) (C.fx.2.1 _ w2) (cell_of C h2 hK he hc) d (kk ls H locs h1 h2 h3)
theorem r_instNo (C : Cx p l s m args meth c cc nL own ret G b) {n a ci index : Nat} {q : vw_C} {nm : String} {fs : List Value} (w : .classLink own index nm ∈ TB) (w2 : (q.1, nm) ∈ NCL) (hK : sK S a ≠ 0) (he : ent G S a = .inr (ci, fs)) (hc : vwCl[ci]? = some q) (d : decode cc pc = .ok (.instanceof index, 3)) (hn : pc + 3 = n)
    (kk : J p l e R s m args below meth c nL G b Q n lv (.int 0 :: st) S cells slots) : J p l e R s m args below meth c nL G b Q pc lv (.ref a :: st) S cells slots := by
  subst hn
  intro ls H locs h1 h2 h3
  exact va_instNo C.1 C.2.1 C.2.2.2.1 (C.w w) (C.fx.2.2.2.1 _ w2) (cell_of C h2 hK he hc) d (kk ls H locs h1 h2 h3)
theorem r_castY (C : Cx p l s m args meth c cc nL own ret G b) {n a ci index : Nat} {q : vw_C} {fs : List Value} (w : .classLink own index q.1 ∈ TB) (w2 : .castable q.1 q.1 ∈ BW) (hK : sK S a ≠ 0) (he : ent G S a = .inr (ci, fs)) (hc : vwCl[ci]? = some q) (d : decode cc pc = .ok (.checkcast index, 3)) (hn : pc + 3 = n)
    (kk : J p l e R s m args below meth c nL G b Q n lv (.ref a :: st) S cells slots) : J p l e R s m args below meth c nL G b Q pc lv (.ref a :: st) S cells slots := by
  subst hn
  intro ls H locs h1 h2 h3
  exact va_castY C.1 C.2.1 C.2.2.2.1 (C.w w) (C.fx.2.1 _ w2) (cell_of C h2 hK he hc) d (kk ls H locs h1 h2 h3)
/-! ===== the row of clients; copying; the rates ===== -/
theorem r_aastN (C : Cx p l s m args meth c cc nL own ret G b) {n a j : Nat} {i : Int32} (hK : sK S a = 13) (hi : i = nI j) (hj : j < aN S a) (hb : aN S a < 2 ^ 31) (d : decode cc pc = .ok (.aastore, 1)) (hn : pc + 1 = n)
    (kk : J p l e R s m args below meth c nL G b Q n lv st (wR S a j none) cells slots) : J p l e R s m args below meth c nL G b Q pc lv (.null :: .int i :: .ref a :: st) S cells slots := by
  subst hn; subst hi
  intro ls H locs h1 h2 h3
  obtain ⟨ws, q, hP, hD, hq, hset, -⟩ := h2.at (by rw [hK]; decide : sK S a ≠ 0)
  rw [ent_13 hK] at hq
  refine va_astqN C.1 C.2.1 C.K hP hD h3 q 4 hq rfl (vp_in_nI hj hb) d (fun H1 locs1 g1 g2 g3 => kk ls H1 locs1 h1 (hset _ H1 _ g1 g2 ?_ wR_ne (fun _ h => h)) g3)
  rw [ent_13 (show sK (wR S a j none) a = 13 from hK), nI_clamp (by omega)]
  refine congrArg (fun f => Sum.inl (G.2 4, aN S a, Sum.inr (Sum.inr (Sum.inr (Sum.inr f))))) (funext fun k => ?_)
  show (if a = a ∧ k = j then none else aR S a k) = va_up (aR S a) j none k
  simp [va_up]
theorem Hd.at2 {H : Heap} {a v : Nat} (h : Hd G b S H) (ha : sK S a ≠ 0) (hv : sK S v ≠ 0) : ∃ (ws : va_W) (k k2 : Nat), va_P G.1 vwCl ws H ∧ va_D (Ab b) ws ∧ ws[k]? = some (a, ent G S a) ∧ ws[k2]? = some (v, ent G S v) ∧
    (∀ (S' : Sw) (H1 : Heap) (e : va_E), va_P G.1 vwCl (ws.set k (a, e)) H1 → va_D (Ab b) (ws.set k (a, e)) → ent G S' a = e → (∀ x, x ≠ a → ent G S' x = ent G S x) → (∀ x, sK S' x ≠ 0 → sK S x ≠ 0) → Hd G b S' H1) := by
  obtain ⟨L, hP, hD, hL⟩ := h
  obtain ⟨k, hk⟩ := va_pl_get (X := []) (f := ent G S) (hL a ha)
  obtain ⟨k2, hk2⟩ := va_pl_get (X := []) (f := ent G S) (hL v hv)
  refine ⟨va_pl L (ent G S), k, k2, hP, hD, hk, hk2, ?_⟩
  intro S' H1 e hP1 hD1 he hx hK
  have hs : (va_pl L (ent G S)).set k (a, e) = va_pl L (ent G S') := by
    rw [show (va_pl L (ent G S)).set k (a, e) = va_pl L (va_up (ent G S) a e) from va_pl_set (X := []) hD (hL a ha) hk]
    refine va_pl_congr (fun z => ?_)
    by_cases hz : z = a
    · subst hz; rw [va_up_self]; exact he.symm
    · rw [va_up_ne _ _ hz]; exact (hx z hz).symm
  rw [hs] at hP1 hD1
  exact ⟨L, hP1, hD1, fun z hz => hL z (hK z hz)⟩
theorem r_aastC (C : Cx p l s m args meth c cc nL own ret G b) {n a j v ci : Nat} {q : vw_C} {fs : List Value} {i : Int32} (hK : sK S a = 13) (hi : i = nI j) (hj : j < aN S a) (hb : aN S a < 2 ^ 31) (hv : sK S v ≠ 0) (he : ent G S v = .inr (ci, fs)) (hc : vwCl[ci]? = some q) (w : .castable q.1 "SoundKernel$Client" ∈ BW) (d : decode cc pc = .ok (.aastore, 1)) (hn : pc + 1 = n)
    (kk : J p l e R s m args below meth c nL G b Q n lv st (wR S a j (some v)) cells slots) : J p l e R s m args below meth c nL G b Q pc lv (.ref v :: .int i :: .ref a :: st) S cells slots := by
  subst hn; subst hi
  intro ls H locs h1 h2 h3
  obtain ⟨ws, q0, q1, hP, hD, hq, hq1, hset⟩ := h2.at2 (by rw [hK]; decide : sK S a ≠ 0) hv
  rw [ent_13 hK] at hq
  rw [he] at hq1
  refine va_astqO C.1 C.2.1 C.K hP hD h3 q0 4 q1 ci hq rfl (C.fx.2.1 _ w) hq1 hc (vp_in_nI hj hb) d (fun H1 locs1 g1 g2 g3 => kk ls H1 locs1 h1 (hset _ H1 _ g1 g2 ?_ wR_ne (fun _ h => h)) g3)
  rw [ent_13 (show sK (wR S a j (some v)) a = 13 from hK), nI_clamp (by omega)]
  refine congrArg (fun f => Sum.inl (G.2 4, aN S a, Sum.inr (Sum.inr (Sum.inr (Sum.inr f))))) (funext fun k => ?_)
  show (if a = a ∧ k = j then some v else aR S a k) = va_up (aR S a) j (some v) k
  simp [va_up]
theorem r_copy (C : Cx p l s m args meth c cc nL own ret G b) {n a a0 index k : Nat} {len : Int32} (w : .methodLink own index arraycopyName ∈ TB ∧ .native arraycopyName ∈ TB ∧ .static arraycopyName ∈ TB ∧ .initialized "java/lang/System" ∈ TB) (hK0 : sK S a0 = 9) (hK : sK S a = 9) (hl : len = nI k) (hk : k < 2 ^ 31) (h0 : k ≤ aN S a0) (h1 : k = aN S a)
    (hR : 1 ≤ R.frames ∧ cat st + (nativeFrameWords "java/lang/System" "arraycopy" 5 + 11) ≤ R.locals) (d : decode cc pc = .ok (.invokestatic index, 3)) (hn : pc + 3 = n)
    (kk : J p l e R s m args below meth c nL G b Q n lv st (wIs S a (fun i => if i < k then aI S a0 i else aI S a i)) cells slots) : J p l e R s m args below meth c nL G b Q pc lv (.int len :: .int 0 :: .ref a :: .int 0 :: .ref a0 :: st) S cells slots := by
  subst hn; subst hl
  intro ls H locs g1 g2 g3
  obtain ⟨ws, q1, q0, hP, hD, hq, hq1, hset⟩ := g2.at2 (by rw [hK]; decide : sK S a ≠ 0) (by rw [hK0]; decide : sK S a0 ≠ 0)
  rw [ent_9 hK] at hq
  rw [ent_9 hK0] at hq1
  have hcl : (nI k).toNatClampNeg = k := nI_clamp hk
  have hz : (0 : Int32).toNatClampNeg = 0 := by decide
  refine va_copyi (ty := .int) C.1 C.2.1 (C.2.2.1.trans g1.1.symm) C.2.2.2.1 (C.w w.1) (C.w w.2.1) (C.w w.2.2.1) (C.w w.2.2.2) C.K hP hD g3 q0 q1 0 0 hq1 hq rfl rfl rfl (by decide) (by decide) (nI_pos hk) (by rw [hcl, hz]; omega) (by rw [hcl, hz]; omega) (fun i hi => rfl) hR.1 hR.2 d (fun H1 locs1 j1 j2 j3 => kk ls H1 locs1 g1 (hset _ H1 _ j1 j2 ?_ wIs_ne (fun _ h => h)) j3)
  rw [ent_9 (show sK (wIs S a (fun i => if i < k then aI S a0 i else aI S a i)) a = 9 from hK)]
  refine congrArg (fun f => Sum.inl (G.2 0, aN S a, Sum.inl f)) (funext fun i => ?_)
  show (if a = a then (if i < k then aI S a0 i else aI S a i) else aI S a i) = va_cpy (aI S a0) (aI S a) (0 : Int32).toNatClampNeg (0 : Int32).toNatClampNeg (nI k).toNatClampNeg i
  rw [hcl, hz]
  simp [va_cpy]
theorem r_rates (C : Cx p l s m args meth c cc nL RX7 ret G b) {n index : Nat} (w : .fieldLink RX7 index "SoundKernel" "RATES" "[I" ∈ TB) (d : decode cc pc = .ok (.getstatic index, 3)) (hn : pc + 3 = n)
    (kk : ∀ t, va_T .int t 7 rts (Ab b) s s.heap → J p l e R s m args below meth c nL G b Q n lv (.ref t :: st) S cells slots) : J p l e R s m args below meth c nL G b Q pc lv st S cells slots := by
  subst hn
  intro ls H locs h1 h2 h3
  obtain ⟨t, hZ, hT⟩ := C.fx.2.2.2.2.2.2.1
  exact va_gets C.1 C.2.1 hZ h3 C.2.2.2.1 (C.w w) (fun _ h => h) d (kk t hT ls H locs h1 h2 h3)
theorem r_rlen (C : Cx p l s m args meth c cc nL own ret G b) {n t : Nat} (hT : va_T .int t 7 rts (Ab b) s s.heap) (d : decode cc pc = .ok (.arraylength, 1)) (hn : pc + 1 = n)
    (kk : J p l e R s m args below meth c nL G b Q n lv (.int 7 :: st) S cells slots) : J p l e R s m args below meth c nL G b Q pc lv (.ref t :: st) S cells slots := by
  subst hn
  intro ls H locs h1 h2 h3
  exact va_tlen C.1 C.2.1 hT h3 rfl d (kk ls H locs h1 h2 h3)
theorem r_rald (C : Cx p l s m args meth c cc nL own ret G b) {n t j : Nat} {i : Int32} {v : Int32} (hT : va_T .int t 7 rts (Ab b) s s.heap) (hi : i = nI j) (hj : j < 7) (hv : rts j = .int v) (d : decode cc pc = .ok (.iaload, 1)) (hn : pc + 1 = n)
    (kk : J p l e R s m args below meth c nL G b Q n lv (.int v :: st) S cells slots) : J p l e R s m args below meth c nL G b Q pc lv (.int i :: .ref t :: st) S cells slots := by
  subst hn; subst hi
  intro ls H locs h1 h2 h3
  exact va_ti C.1 C.2.1 hT h3 (vp_in_nI hj (by decide)) (by rw [nI_clamp (by omega)]; exact hv) d (kk ls H locs h1 h2 h3)
end MOR
end
