section
-- ===== PART A: goes FIRST, ahead of the names: the tables' words, and 'selects' of the private methods out of them =====
/-- a private method of a class that the tables say can be made, by its rows of tables_1 -/
def lw_okq (q : MethodName × Nat) : Prop := (q.1.cls ≠ "java/lang/invoke/MethodHandle" ∧ q.1.cls ≠ "java/lang/invoke/VarHandle") ∧ Cond.instantiable q.1.cls q.2 ∈ tables_1 ∧ Cond.privateMethod q.1 ∈ tables_1 ∧ Cond.instanceMethod q.1 ∈ tables_1
theorem lw_p0 : lw_okq (⟨"VoiceFrames", "pack", "()V"⟩, 8) := ⟨⟨by decide +kernel, by decide +kernel⟩, List.mem_of_getElem? (i := 21) (by decide +kernel), List.mem_of_getElem? (i := 273) (by decide +kernel), List.mem_of_getElem? (i := 274) (by decide +kernel)⟩
theorem lw_p1 : lw_okq (⟨"VoiceFrames", "unpack", "()V"⟩, 8) := ⟨⟨by decide +kernel, by decide +kernel⟩, List.mem_of_getElem? (i := 21) (by decide +kernel), List.mem_of_getElem? (i := 291) (by decide +kernel), List.mem_of_getElem? (i := 292) (by decide +kernel)⟩
theorem lw_p2 : lw_okq (⟨"VoiceFrames$Decoder", "rebuildPart", "(I[I)V"⟩, 7) := ⟨⟨by decide +kernel, by decide +kernel⟩, List.mem_of_getElem? (i := 204) (by decide +kernel), List.mem_of_getElem? (i := 299) (by decide +kernel), List.mem_of_getElem? (i := 300) (by decide +kernel)⟩
theorem lw_p3 : lw_okq (⟨"VoiceFrames$Pulses", "made", "(I)I"⟩, 3) := ⟨⟨by decide +kernel, by decide +kernel⟩, List.mem_of_getElem? (i := 150) (by decide +kernel), List.mem_of_getElem? (i := 312) (by decide +kernel), List.mem_of_getElem? (i := 313) (by decide +kernel)⟩
theorem lw_p4 : lw_okq (⟨"VoiceFrames$Decoder", "giveBack", "([I)V"⟩, 7) := ⟨⟨by decide +kernel, by decide +kernel⟩, List.mem_of_getElem? (i := 204) (by decide +kernel), List.mem_of_getElem? (i := 352) (by decide +kernel), List.mem_of_getElem? (i := 353) (by decide +kernel)⟩
theorem lw_p5 : lw_okq (⟨"VoiceFrames$Decoder", "spoken", "(I)I"⟩, 7) := ⟨⟨by decide +kernel, by decide +kernel⟩, List.mem_of_getElem? (i := 204) (by decide +kernel), List.mem_of_getElem? (i := 375) (by decide +kernel), List.mem_of_getElem? (i := 376) (by decide +kernel)⟩
theorem lw_p6 : lw_okq (⟨"java/lang/Throwable", "fillInStackTrace", "(I)Ljava/lang/Throwable;"⟩, 6) := ⟨⟨by decide +kernel, by decide +kernel⟩, List.mem_of_getElem? (i := 438) (by decide +kernel), List.mem_of_getElem? (i := 436) (by decide +kernel), List.mem_of_getElem? (i := 437) (by decide +kernel)⟩
theorem lw_p7 : lw_okq (⟨"VoiceFrames$Inlet", "next", "(I)I"⟩, 3) := ⟨⟨by decide +kernel, by decide +kernel⟩, List.mem_of_getElem? (i := 35) (by decide +kernel), List.mem_of_getElem? (i := 509) (by decide +kernel), List.mem_of_getElem? (i := 510) (by decide +kernel)⟩
theorem lw_p8 : lw_okq (⟨"VoiceFrames$Prediction", "lower", "([I)V"⟩, 5) := ⟨⟨by decide +kernel, by decide +kernel⟩, List.mem_of_getElem? (i := 52) (by decide +kernel), List.mem_of_getElem? (i := 528) (by decide +kernel), List.mem_of_getElem? (i := 529) (by decide +kernel)⟩
theorem lw_p9 : lw_okq (⟨"VoiceFrames$Prediction", "correlate", "()V"⟩, 5) := ⟨⟨by decide +kernel, by decide +kernel⟩, List.mem_of_getElem? (i := 52) (by decide +kernel), List.mem_of_getElem? (i := 542) (by decide +kernel), List.mem_of_getElem? (i := 543) (by decide +kernel)⟩
theorem lw_p10 : lw_okq (⟨"VoiceFrames$Prediction", "reflect", "()V"⟩, 5) := ⟨⟨by decide +kernel, by decide +kernel⟩, List.mem_of_getElem? (i := 52) (by decide +kernel), List.mem_of_getElem? (i := 546) (by decide +kernel), List.mem_of_getElem? (i := 547) (by decide +kernel)⟩
theorem lw_p11 : lw_okq (⟨"VoiceFrames$Prediction", "fold", "(II)V"⟩, 5) := ⟨⟨by decide +kernel, by decide +kernel⟩, List.mem_of_getElem? (i := 52) (by decide +kernel), List.mem_of_getElem? (i := 556) (by decide +kernel), List.mem_of_getElem? (i := 557) (by decide +kernel)⟩
theorem lw_p12 : lw_okq (⟨"VoiceFrames$Encoder", "takeAway", "()V"⟩, 10) := ⟨⟨by decide +kernel, by decide +kernel⟩, List.mem_of_getElem? (i := 29) (by decide +kernel), List.mem_of_getElem? (i := 577) (by decide +kernel), List.mem_of_getElem? (i := 578) (by decide +kernel)⟩
theorem lw_p13 : lw_okq (⟨"VoiceFrames$Encoder", "left", "(I)I"⟩, 10) := ⟨⟨by decide +kernel, by decide +kernel⟩, List.mem_of_getElem? (i := 29) (by decide +kernel), List.mem_of_getElem? (i := 583) (by decide +kernel), List.mem_of_getElem? (i := 584) (by decide +kernel)⟩
theorem lw_p14 : lw_okq (⟨"VoiceFrames$Encoder", "describePart", "(I[I)V"⟩, 10) := ⟨⟨by decide +kernel, by decide +kernel⟩, List.mem_of_getElem? (i := 29) (by decide +kernel), List.mem_of_getElem? (i := 589) (by decide +kernel), List.mem_of_getElem? (i := 590) (by decide +kernel)⟩
theorem lw_p15 : lw_okq (⟨"VoiceFrames$Search", "lower", "([II)I"⟩, 3) := ⟨⟨by decide +kernel, by decide +kernel⟩, List.mem_of_getElem? (i := 110) (by decide +kernel), List.mem_of_getElem? (i := 598) (by decide +kernel), List.mem_of_getElem? (i := 599) (by decide +kernel)⟩
def lw_privs_1 : List (MethodName × Nat) := [(⟨"VoiceFrames", "pack", "()V"⟩, 8), (⟨"VoiceFrames", "unpack", "()V"⟩, 8), (⟨"VoiceFrames$Decoder", "rebuildPart", "(I[I)V"⟩, 7), (⟨"VoiceFrames$Pulses", "made", "(I)I"⟩, 3), (⟨"VoiceFrames$Decoder", "giveBack", "([I)V"⟩, 7), (⟨"VoiceFrames$Decoder", "spoken", "(I)I"⟩, 7), (⟨"java/lang/Throwable", "fillInStackTrace", "(I)Ljava/lang/Throwable;"⟩, 6), (⟨"VoiceFrames$Inlet", "next", "(I)I"⟩, 3), (⟨"VoiceFrames$Prediction", "lower", "([I)V"⟩, 5), (⟨"VoiceFrames$Prediction", "correlate", "()V"⟩, 5), (⟨"VoiceFrames$Prediction", "reflect", "()V"⟩, 5), (⟨"VoiceFrames$Prediction", "fold", "(II)V"⟩, 5), (⟨"VoiceFrames$Encoder", "takeAway", "()V"⟩, 10), (⟨"VoiceFrames$Encoder", "left", "(I)I"⟩, 10), (⟨"VoiceFrames$Encoder", "describePart", "(I[I)V"⟩, 10), (⟨"VoiceFrames$Search", "lower", "([II)I"⟩, 3)]
theorem lw_r1 : ∀ q ∈ lw_privs_1, lw_okq q := List.forall_mem_cons.mpr ⟨lw_p0, List.forall_mem_cons.mpr ⟨lw_p1, List.forall_mem_cons.mpr ⟨lw_p2, List.forall_mem_cons.mpr ⟨lw_p3, List.forall_mem_cons.mpr ⟨lw_p4, List.forall_mem_cons.mpr ⟨lw_p5, List.forall_mem_cons.mpr ⟨lw_p6, List.forall_mem_cons.mpr ⟨lw_p7, List.forall_mem_cons.mpr ⟨lw_p8, List.forall_mem_cons.mpr ⟨lw_p9, List.forall_mem_cons.mpr ⟨lw_p10, List.forall_mem_cons.mpr ⟨lw_p11, List.forall_mem_cons.mpr ⟨lw_p12, List.forall_mem_cons.mpr ⟨lw_p13, List.forall_mem_cons.mpr ⟨lw_p14, List.forall_mem_cons.mpr ⟨lw_p15, fun _ h => absurd h List.not_mem_nil⟩⟩⟩⟩⟩⟩⟩⟩⟩⟩⟩⟩⟩⟩⟩⟩
theorem lw_p16 : lw_okq (⟨"VoiceFrames$Search", "likeness", "([II)I"⟩, 3) := ⟨⟨by decide +kernel, by decide +kernel⟩, List.mem_of_getElem? (i := 110) (by decide +kernel), List.mem_of_getElem? (i := 604) (by decide +kernel), List.mem_of_getElem? (i := 605) (by decide +kernel)⟩
theorem lw_p17 : lw_okq (⟨"VoiceFrames$Thinning", "filtered", "(I)I"⟩, 4) := ⟨⟨by decide +kernel, by decide +kernel⟩, List.mem_of_getElem? (i := 128) (by decide +kernel), List.mem_of_getElem? (i := 623) (by decide +kernel), List.mem_of_getElem? (i := 624) (by decide +kernel)⟩
theorem lw_p18 : lw_okq (⟨"VoiceFrames$Thinning", "loudestGrid", "()I"⟩, 4) := ⟨⟨by decide +kernel, by decide +kernel⟩, List.mem_of_getElem? (i := 128) (by decide +kernel), List.mem_of_getElem? (i := 629) (by decide +kernel), List.mem_of_getElem? (i := 630) (by decide +kernel)⟩
theorem lw_p19 : lw_okq (⟨"VoiceFramesModel", "refuses", "(I)Z"⟩, 30) := ⟨⟨by decide +kernel, by decide +kernel⟩, List.mem_of_getElem? (i := 730) (by decide +kernel), List.mem_of_getElem? (i := 836) (by decide +kernel), List.mem_of_getElem? (i := 837) (by decide +kernel)⟩
theorem lw_p20 : lw_okq (⟨"VoiceFramesModel", "prepares", "()V"⟩, 30) := ⟨⟨by decide +kernel, by decide +kernel⟩, List.mem_of_getElem? (i := 730) (by decide +kernel), List.mem_of_getElem? (i := 851) (by decide +kernel), List.mem_of_getElem? (i := 852) (by decide +kernel)⟩
theorem lw_p21 : lw_okq (⟨"VoiceFramesModel", "correlates", "()V"⟩, 30) := ⟨⟨by decide +kernel, by decide +kernel⟩, List.mem_of_getElem? (i := 730) (by decide +kernel), List.mem_of_getElem? (i := 872) (by decide +kernel), List.mem_of_getElem? (i := 873) (by decide +kernel)⟩
theorem lw_p22 : lw_okq (⟨"VoiceFramesModel", "reflects", "()V"⟩, 30) := ⟨⟨by decide +kernel, by decide +kernel⟩, List.mem_of_getElem? (i := 730) (by decide +kernel), List.mem_of_getElem? (i := 887) (by decide +kernel), List.mem_of_getElem? (i := 888) (by decide +kernel)⟩
theorem lw_p23 : lw_okq (⟨"VoiceFramesModel", "tellsFilter", "()V"⟩, 30) := ⟨⟨by decide +kernel, by decide +kernel⟩, List.mem_of_getElem? (i := 730) (by decide +kernel), List.mem_of_getElem? (i := 891) (by decide +kernel), List.mem_of_getElem? (i := 892) (by decide +kernel)⟩
theorem lw_p24 : lw_okq (⟨"VoiceFramesModel", "makesG", "()V"⟩, 30) := ⟨⟨by decide +kernel, by decide +kernel⟩, List.mem_of_getElem? (i := 730) (by decide +kernel), List.mem_of_getElem? (i := 912) (by decide +kernel), List.mem_of_getElem? (i := 913) (by decide +kernel)⟩
theorem lw_p25 : lw_okq (⟨"VoiceFramesModel", "leaves", "()V"⟩, 30) := ⟨⟨by decide +kernel, by decide +kernel⟩, List.mem_of_getElem? (i := 730) (by decide +kernel), List.mem_of_getElem? (i := 920) (by decide +kernel), List.mem_of_getElem? (i := 921) (by decide +kernel)⟩
theorem lw_p26 : lw_okq (⟨"VoiceFramesModel", "makesR", "(II)V"⟩, 30) := ⟨⟨by decide +kernel, by decide +kernel⟩, List.mem_of_getElem? (i := 730) (by decide +kernel), List.mem_of_getElem? (i := 924) (by decide +kernel), List.mem_of_getElem? (i := 925) (by decide +kernel)⟩
theorem lw_p27 : lw_okq (⟨"VoiceFramesModel", "keepsG", "(I)V"⟩, 30) := ⟨⟨by decide +kernel, by decide +kernel⟩, List.mem_of_getElem? (i := 730) (by decide +kernel), List.mem_of_getElem? (i := 929) (by decide +kernel), List.mem_of_getElem? (i := 930) (by decide +kernel)⟩
theorem lw_p28 : lw_okq (⟨"VoiceFramesModel", "looksBack", "(II)V"⟩, 30) := ⟨⟨by decide +kernel, by decide +kernel⟩, List.mem_of_getElem? (i := 730) (by decide +kernel), List.mem_of_getElem? (i := 933) (by decide +kernel), List.mem_of_getElem? (i := 934) (by decide +kernel)⟩
theorem lw_p29 : lw_okq (⟨"VoiceFramesModel", "filters", "()V"⟩, 30) := ⟨⟨by decide +kernel, by decide +kernel⟩, List.mem_of_getElem? (i := 730) (by decide +kernel), List.mem_of_getElem? (i := 943) (by decide +kernel), List.mem_of_getElem? (i := 944) (by decide +kernel)⟩
theorem lw_p30 : lw_okq (⟨"VoiceFramesModel", "tellsPulses", "(I)V"⟩, 30) := ⟨⟨by decide +kernel, by decide +kernel⟩, List.mem_of_getElem? (i := 730) (by decide +kernel), List.mem_of_getElem? (i := 951) (by decide +kernel), List.mem_of_getElem? (i := 952) (by decide +kernel)⟩
theorem lw_p31 : lw_okq (⟨"VoiceFramesModel", "ofHeight", "(I)V"⟩, 30) := ⟨⟨by decide +kernel, by decide +kernel⟩, List.mem_of_getElem? (i := 730) (by decide +kernel), List.mem_of_getElem? (i := 956) (by decide +kernel), List.mem_of_getElem? (i := 957) (by decide +kernel)⟩
def lw_privs_2 : List (MethodName × Nat) := [(⟨"VoiceFrames$Search", "likeness", "([II)I"⟩, 3), (⟨"VoiceFrames$Thinning", "filtered", "(I)I"⟩, 4), (⟨"VoiceFrames$Thinning", "loudestGrid", "()I"⟩, 4), (⟨"VoiceFramesModel", "refuses", "(I)Z"⟩, 30), (⟨"VoiceFramesModel", "prepares", "()V"⟩, 30), (⟨"VoiceFramesModel", "correlates", "()V"⟩, 30), (⟨"VoiceFramesModel", "reflects", "()V"⟩, 30), (⟨"VoiceFramesModel", "tellsFilter", "()V"⟩, 30), (⟨"VoiceFramesModel", "makesG", "()V"⟩, 30), (⟨"VoiceFramesModel", "leaves", "()V"⟩, 30), (⟨"VoiceFramesModel", "makesR", "(II)V"⟩, 30), (⟨"VoiceFramesModel", "keepsG", "(I)V"⟩, 30), (⟨"VoiceFramesModel", "looksBack", "(II)V"⟩, 30), (⟨"VoiceFramesModel", "filters", "()V"⟩, 30), (⟨"VoiceFramesModel", "tellsPulses", "(I)V"⟩, 30), (⟨"VoiceFramesModel", "ofHeight", "(I)V"⟩, 30)]
theorem lw_r2 : ∀ q ∈ lw_privs_2, lw_okq q := List.forall_mem_cons.mpr ⟨lw_p16, List.forall_mem_cons.mpr ⟨lw_p17, List.forall_mem_cons.mpr ⟨lw_p18, List.forall_mem_cons.mpr ⟨lw_p19, List.forall_mem_cons.mpr ⟨lw_p20, List.forall_mem_cons.mpr ⟨lw_p21, List.forall_mem_cons.mpr ⟨lw_p22, List.forall_mem_cons.mpr ⟨lw_p23, List.forall_mem_cons.mpr ⟨lw_p24, List.forall_mem_cons.mpr ⟨lw_p25, List.forall_mem_cons.mpr ⟨lw_p26, List.forall_mem_cons.mpr ⟨lw_p27, List.forall_mem_cons.mpr ⟨lw_p28, List.forall_mem_cons.mpr ⟨lw_p29, List.forall_mem_cons.mpr ⟨lw_p30, List.forall_mem_cons.mpr ⟨lw_p31, fun _ h => absurd h List.not_mem_nil⟩⟩⟩⟩⟩⟩⟩⟩⟩⟩⟩⟩⟩⟩⟩⟩
theorem lw_p32 : lw_okq (⟨"VoiceFramesModel", "makes", "(I)V"⟩, 30) := ⟨⟨by decide +kernel, by decide +kernel⟩, List.mem_of_getElem? (i := 730) (by decide +kernel), List.mem_of_getElem? (i := 963) (by decide +kernel), List.mem_of_getElem? (i := 964) (by decide +kernel)⟩
theorem lw_p33 : lw_okq (⟨"VoiceFramesModel", "settles", "(I)V"⟩, 30) := ⟨⟨by decide +kernel, by decide +kernel⟩, List.mem_of_getElem? (i := 730) (by decide +kernel), List.mem_of_getElem? (i := 971) (by decide +kernel), List.mem_of_getElem? (i := 972) (by decide +kernel)⟩
theorem lw_p34 : lw_okq (⟨"VoiceFramesModel", "clears", "(I)V"⟩, 30) := ⟨⟨by decide +kernel, by decide +kernel⟩, List.mem_of_getElem? (i := 730) (by decide +kernel), List.mem_of_getElem? (i := 1008) (by decide +kernel), List.mem_of_getElem? (i := 1009) (by decide +kernel)⟩
def lw_privs_3 : List (MethodName × Nat) := [(⟨"VoiceFramesModel", "makes", "(I)V"⟩, 30), (⟨"VoiceFramesModel", "settles", "(I)V"⟩, 30), (⟨"VoiceFramesModel", "clears", "(I)V"⟩, 30)]
theorem lw_r3 : ∀ q ∈ lw_privs_3, lw_okq q := List.forall_mem_cons.mpr ⟨lw_p32, List.forall_mem_cons.mpr ⟨lw_p33, List.forall_mem_cons.mpr ⟨lw_p34, fun _ h => absurd h List.not_mem_nil⟩⟩⟩
def lw_privs : List (MethodName × Nat) := lw_privs_1 ++ (lw_privs_2 ++ (lw_privs_3))
def lw_tbl : List Cond := k2_sels lw_privs ++ tables_1
theorem lw_privs_ok : ∀ q ∈ lw_privs, lw_okq q := by
  show ∀ q ∈ lw_privs_1 ++ (lw_privs_2 ++ (lw_privs_3)), lw_okq q
  exact List.forall_mem_append.mpr ⟨lw_r1, List.forall_mem_append.mpr ⟨lw_r2, lw_r3⟩⟩
end
section
/-! ===== BEGIN words of one list among another's, by their places ===== -/
theorem goodIn_r {big : List Cond} (ws : List Cond) (ps : List Nat) (hp : ws = ps.filterMap (fun i => big[i]?)) (h : ws.all goodWord = true) : GoodIn big ws := by
  intro w hw
  have h1 := List.all_eq_true.mp h w hw
  rw [hp] at hw
  obtain ⟨i, -, hi⟩ := List.mem_filterMap.mp hw
  have hm : w ∈ big := by first | exact List.mem_of_getElem? hi | exact List.getElem?_mem hi
  exact ⟨hm, good_of_word h1⟩
theorem goodIn_app {big a b : List Cond} (ha : GoodIn big a) (hb : GoodIn big b) : GoodIn big (a ++ b) := fun w h => (List.mem_append.mp h).elim (ha w) (hb w)
theorem goodIn_ca {big a b : List Cond} {c : Cond} (ha : GoodIn big (c :: a)) (hb : GoodIn big b) : GoodIn big (c :: (a ++ b)) := fun w h => (List.mem_cons.mp h).elim (fun e => ha w (List.mem_cons.mpr (Or.inl e))) (fun h => (List.mem_append.mp h).elim (fun h => ha w (List.mem_cons.mpr (Or.inr h))) (hb w))
theorem goodIn_sub {big ws : List Cond} (hm : ∀ w ∈ ws, w ∈ big) (h : ws.all goodWord = true) : GoodIn big ws := fun w hw => ⟨hm w hw, good_of_word (List.all_eq_true.mp h w hw)⟩
/-! ===== END ===== -/
/-! ===== BEGIN exceptions that leave a method, and their catching by the caller (launches without stack traces) ===== -/
section VXA
/-! The laws vx_back, vx_callV, vx_callS, vx_callSW, vx_throw0, vx_throwS follow proofs of the library, with one case more: JvmDerived/Free/Laws.lean (Back.of_free), Shelf42/LK1.lean (callV, callS), Shelf/KitTraced.lean (throwNew0V, throwNewS). -/
/-- where a method has thrown q: the class by its name, the cell, what was written, the world -/
def vx_T (XC : String → State → State → Prop) (st : State) (q : Addr) (t : State) (mc ms : Nat) (free : Addr → Prop) : Prop :=
  ∃ (E : String) (ce : Cell) (L : List Loc), XC E st t ∧ t.heap[q]? = some ce ∧ ce.vm = .none ∧ st.vm.findClass E = some ce.cls ∧ st.WarmedH t.vm ∧ st.sameButNew ({ t with vm := st.vm } : State) L mc ms ∧ ∀ z ∈ L, free z.base
def vx_Q (Qc : Array Value → State → Outcome → State → Prop) (XC : String → State → State → Prop) (mc ms : Nat) (free : Addr → Prop) : Array Value → State → Outcome → State → Prop := fun a st o t =>
  (Qc a st o t ∧ ∃ L, FrameEnd st o t L mc ms ∧ ∀ q ∈ L, free q.base) ∨ ∃ q, o = .threw q ∧ vx_T XC st q t mc ms free
/-- a callee that returns or throws -/
def vx_Met (l : Launch) (y : MethodName) (ws : List Cond) (rm : Room) (Pc : Array Value → State → Prop) (Qc : Array Value → State → Outcome → State → Prop) (XC : String → State → State → Prop) (mc ms : Nat) (free : Addr → Prop) : Prop :=
  MetFree l y (headSpec ws rm) Pc (fun _ _ _ _ _ => True) (vx_Q Qc XC mc ms free)
def vx_Post (XC : String → State → State → Prop) (mc ms : Nat) (free : Addr → Prop) : Pt → Array Value → Addr → Pt → Prop := fun A a q B =>
  ∃ (g : JFrame) (mk : MethodId) (t : State) (L : List Loc) (E : String) (ce : Cell), B.U.heap = t.heap ∧ B.U.vm = t.vm ∧ XC E (A.U.calling g mk a) t ∧ t.heap[q]? = some ce ∧ ce.vm = .none ∧ A.U.vm.findClass E = some ce.cls ∧ B.locs = A.locs ++ L ∧ (∀ z ∈ L, free z.base) ∧ B.cells = A.cells + mc ∧ B.slots = A.slots + ms
def vx_Back (l : Launch) (R : Room) (p : Program) (e : Env) (below : List Frame) (s : State) (sargs : Array Value) (y : MethodName) (len W9 : Nat)
    (Pre : Pt → Array Value → Prop) (Post : Pt → Array Value → Option Value → Pt → Prop) (PostX : Pt → Array Value → Addr → Pt → Prop) : Prop :=
  ∀ (m : MethodId) (meth : Method) (c : Code) (A : Pt) (g : JFrame) (ig : Instr) (mk : MethodId) (a : Array Value),
    Stand p l e R s m sargs below meth c A.U A.locs A.cells A.slots → g.method = m → g.locals.size = c.maxLocals → decode c.code g.pc = .ok (ig, len) →
    2 * g.monitorRoom + (g.stack.map fun v => v.category).sum ≤ W9 → A.U.methodNamed? y = some mk → Pre A a →
    (∃ (v : Option Value) (B : Pt), Stand p l e R s m sargs below meth c B.U B.locs B.cells B.slots ∧ Post A a v B ∧
      Steps p.tables e below (doInvoke e (A.U.setTop g) [] mk a).1 (B.U.setTop { g with pc := g.pc + len, stack := v.toList ++ g.stack })) ∨
    (∃ (q : Addr) (B : Pt), Stand p l e R s m sargs below meth c B.U B.locs B.cells B.slots ∧ PostX A a q B ∧
      Steps p.tables e below (doInvoke e (A.U.setTop g) [] mk a).1 ((B.U.setTop g).pushFrame (.throwing q)))
section Payer
variable {l : Launch} {R : Room} {p : Program} {e : Env} {below : List Frame} {s : State} {sargs : Array Value} {y : MethodName} {len W9 : Nat}
theorem vx_back {ws : List Cond} {rm : Room} {Pc : Array Value → State → Prop} {Qc : Array Value → State → Outcome → State → Prop} {XC : String → State → State → Prop} {mc ms : Nat} {free : Addr → Prop} {bytes : ByteArray} {maxL : Nat} {ret : Option FieldType}
    (hM : vx_Met l y ws rm Pc Qc XC mc ms free) (hblind : FrameBlind Pc) (hrc : rm.cells = mc) (hrs : rm.slots = ms)
    (hframes : rm.frames + 1 ≤ R.frames) (hlocals : W9 + (maxL + 11) + rm.locals ≤ R.locals)
    (hws : ∀ w ∈ ws, ∀ a' U, s.WarmedH U.vm → w.before a' U = true) (hcode : Cond.code y bytes maxL ret ∈ ws) (hinit : ∀ a' U, s.WarmedH U.vm → (Cond.initialized y.cls).before a' U = true) :
    vx_Back l R p e below s sargs y len W9 (PreOf R mc ms Pc) (PostOf Qc mc ms free) (vx_Post XC mc ms free) := by
  intro m meth c A g ig mk a X hg hsize hdg hW hn hp
  have h1 : (headSpec ws rm).pre.before a A.U = true := atoms_intro fun w hw => hws w hw _ _ X.warmed
  have h2 : (Cond.code y bytes maxL ret).before a A.U = true := hws _ hcode _ _ X.warmed
  have h3 : (Cond.initialized y.cls).before a A.U = true := hinit _ _ X.warmed
  have h4 : A.cells + (headSpec ws rm).room.cells ≤ R.cells := by rw [show (headSpec ws rm).room.cells = mc from hrc]; exact hp.1
  have h5 : A.slots + (headSpec ws rm).room.slots ≤ R.slots := by rw [show (headSpec ws rm).room.slots = ms from hrs]; exact hp.2.1
  have hPc : Pc a (A.U.calling g mk a) := hblind _ _ _ _ hp.2.2
  obtain ⟨U, Ls, c0, s0⟩ := A
  dsimp only [Pt.U, Pt.locs, Pt.cells, Pt.slots] at h1 h2 h3 h4 h5 X hn hPc ⊢
  obtain ⟨methY, cY, hmY, hcY, -, hlY, -, -, -, -⟩ := Cond.code_spec hn h2
  obtain ⟨kY, hkY, -⟩ := className_of_methodNamed hn
  have hinitY : kY.init = .initialized := Cond.initialized_spec (findClass_of_methodNamed hn) hkY h3
  have h : At U g.method c below := by rw [hg]; exact X.here
  have hlocals9 : W9 + (maxL + 11) + (headSpec ws rm).room.locals ≤ R.locals := hlocals
  have happ : (headSpec ws rm).appliesLoose y e.platform (U.calling g mk a) = true :=
    Spec.appliesLoose_calling (g := g) h hdg hn hkY hinitY
      (X.room_calling (g := g) (R' := (headSpec ws rm).room) hsize hmY hcY hframes (by rw [hlY]; omega) h4 h5) h1
  obtain ⟨mid, hmid⟩ := h.above
  have hfr : (U.setTop g).frames = (.java g :: mid) ++ below := by rw [State.frames_setTop' g h.top, hmid]; rfl
  obtain ⟨o, s₂, hsteps, -, hend, hq⟩ := Steps.callFree hM p X.admits X.cas X.clock (acts := []) hfr happ hPc trivial
  have hq' : vx_Q Qc XC mc ms free a (U.calling g mk a) o s₂ := hq
  rw [State.frames_setTop' g h.top] at hend
  obtain ⟨g₀, hg0⟩ := Option.isSome_iff_exists.mp h.top
  obtain ⟨r, hr⟩ := State.topJava?_eq_some.mp hg0
  have hr' : (({ U with heap := s₂.heap, slotsUsed := s₂.slotsUsed } : State).setVm s₂.vm).frames = .java g₀ :: r := hr
  rcases hq' with ⟨hqc, L, hfe, hL⟩ | ⟨q, rfl, E, ce, L, hx, hce, hcv, hcl, hW₂, hsm, hL⟩
  · obtain ⟨⟨v, rfl⟩, hW₂, e2, q2, q3, q4, q5, q6⟩ := id hfe
    have e3 : s₂ = ({ (U.calling g mk a).setFrames s₂.frames with heap := s₂.heap, slotsUsed := s₂.slotsUsed } : State).setVm s₂.vm := by
      have : s₂ = ({ s₂ with vm := (U.calling g mk a).vm } : State).setVm s₂.vm := rfl
      rw [e2] at this
      exact this
    obtain ⟨c₂, i₂, len₂, hc₂, hd₂, hf₂⟩ := hend
    have hW' : U.WarmedH s₂.vm := hW₂
    have hcc : c₂ = c := by
      have h1 : s₂.code? g.method = U.code? g.method := by
        rw [State.code?_eq, State.code?_eq, hW'.alike.method?]
      exact Option.some.inj (hc₂.symm.trans (h1.trans h.code))
    subst hcc
    have hlen : len₂ = len := by rw [hdg] at hd₂; cases hd₂; rfl
    subst hlen
    have hs₂ : s₂ = (({ U with heap := s₂.heap, slotsUsed := s₂.slotsUsed } : State).setVm s₂.vm).setTop { g with pc := g.pc + len₂, stack := v.toList ++ g.stack } := by
      refine e3.trans ?_
      rw [hf₂, State.calling_eq h.top, State.setFrames_setFrames, State.setTop_of_frames _ hr', hr]
      rfl
    have hsame : U.sameButNew ({ U with heap := s₂.heap, slotsUsed := s₂.slotsUsed } : State) L mc ms := by
      refine ⟨?_, q2, q3, q4, q5, q6⟩
      obtain ⟨t, ht, -⟩ := State.frames_cons hr
      show ({ U with heap := s₂.heap, slotsUsed := s₂.slotsUsed } : State) = { U.setFrames U.frames with heap := s₂.heap, slotsUsed := s₂.slotsUsed }
      rw [State.setFrames_self ht]
    subst hg
    refine Or.inl ⟨v, ⟨(({ U with heap := s₂.heap, slotsUsed := s₂.slotsUsed } : State).setVm s₂.vm), Ls ++ L, c0 + mc, s0 + ms⟩,
      ⟨X.admits, X.cas, X.clock, X.frames, X.room, X.hears, X.method, X.code, (X.here.setHeapUsed s₂.heap s₂.slotsUsed).setVm hW'.alike, X.tail, State.WarmedH.trans X.warmed hW', X.limits, X.bytes, X.same.trans (hsame.setVm s.vm)⟩,
      ⟨g, mk, s₂, L, rfl, rfl, hqc, rfl, hL, rfl, rfl⟩, ?_⟩
    show Steps p.tables e below _ ((({ U with heap := s₂.heap, slotsUsed := s₂.slotsUsed } : State).setVm s₂.vm).setTop { g with pc := g.pc + len₂, stack := v.toList ++ g.stack })
    rw [← hs₂]
    exact hsteps
  · obtain ⟨e2, q2, q3, q4, q5, q6⟩ := id hsm
    have e3 : s₂ = ({ (U.calling g mk a).setFrames s₂.frames with heap := s₂.heap, slotsUsed := s₂.slotsUsed } : State).setVm s₂.vm := by
      have : s₂ = ({ s₂ with vm := (U.calling g mk a).vm } : State).setVm s₂.vm := rfl
      rw [e2] at this
      exact this
    have hf₂ : s₂.frames = .throwing q :: .java g :: U.frames.tail := hend
    have hW' : U.WarmedH s₂.vm := hW₂
    have hs₂ : s₂ = ((({ U with heap := s₂.heap, slotsUsed := s₂.slotsUsed } : State).setVm s₂.vm).setTop g).pushFrame (.throwing q) := by
      refine e3.trans ?_
      rw [hf₂, State.calling_eq h.top, State.setFrames_setFrames, State.pushFrame, State.frames_setTop _ hr', State.setTop_of_frames _ hr', State.setFrames_setFrames, hr]
      rfl
    have hsame : U.sameButNew ({ U with heap := s₂.heap, slotsUsed := s₂.slotsUsed } : State) L mc ms := by
      refine ⟨?_, q2, q3, q4, q5, q6⟩
      obtain ⟨t, ht, -⟩ := State.frames_cons hr
      show ({ U with heap := s₂.heap, slotsUsed := s₂.slotsUsed } : State) = { U.setFrames U.frames with heap := s₂.heap, slotsUsed := s₂.slotsUsed }
      rw [State.setFrames_self ht]
    subst hg
    refine Or.inr ⟨q, ⟨(({ U with heap := s₂.heap, slotsUsed := s₂.slotsUsed } : State).setVm s₂.vm), Ls ++ L, c0 + mc, s0 + ms⟩,
      ⟨X.admits, X.cas, X.clock, X.frames, X.room, X.hears, X.method, X.code, (X.here.setHeapUsed s₂.heap s₂.slotsUsed).setVm hW'.alike, X.tail, State.WarmedH.trans X.warmed hW', X.limits, X.bytes, X.same.trans (hsame.setVm s.vm)⟩,
      ⟨g, mk, s₂, L, E, ce, rfl, rfl, hx, hce, hcv, hcl, rfl, hL, rfl, rfl⟩, ?_⟩
    show Steps p.tables e below _ (((({ U with heap := s₂.heap, slotsUsed := s₂.slotsUsed } : State).setVm s₂.vm).setTop g).pushFrame (.throwing q))
    rw [← hs₂]
    exact hsteps
end Payer
section Calls
variable {p : Program} {l : Launch} {e : Env} {R : Room} {s : State} {m : MethodId} {args : Array Value} {below : List Frame} {meth : Method} {c : Code} {T : State} {locs : List Loc} {cells slots : Nat}
theorem vx_callV (X : Stand p l e R s m args below meth c T locs cells slots) (hexec : p.tables.exec = Jvm.exec) {own C : String} {index : Nat} {y : MethodName} {bytes : ByteArray} {maxL : Nat} {ret : Option FieldType}
    (hown : s.vm.findClass own = some m.cls) (hlink : (Cond.methodLink own index y).before args s = true) (hinst : (Cond.instanceMethod y).before args s = true) (hsel : (Cond.selects C y y).before args s = true)
    (hcode : (Cond.code y bytes maxL ret).before args s = true) (hy : y.cls ≠ "java/lang/invoke/MethodHandle" ∧ y.cls ≠ "java/lang/invoke/VarHandle")
    {W9 : Nat} {Pre : Pt → Array Value → Prop} {Post : Pt → Array Value → Option Value → Pt → Prop} {PostX : Pt → Array Value → Addr → Pt → Prop} (hK : vx_Back l R p e below s args y 3 W9 Pre Post PostX)
    {b : Addr} {cellB : Cell} (hcell : T.heap[b]? = some cellB) (hobj : cellB.vm.isStatics = false) (hcls : s.vm.findClass C = some cellB.cls)
    {g : JFrame} (hg : g.method = m) (hsize : g.locals.size = c.maxLocals) {argsL rest : List Value} (hlen : ∀ sig, parseMethodDescriptor y.desc = some sig → argsL.length = sig.parameters.length)
    (hstack : g.stack = argsL.reverse ++ .ref b :: rest) (hW : 2 * g.monitorRoom + (rest.map fun v => v.category).sum ≤ W9) (hdg : decode c.code g.pc = .ok (.invokevirtual index, 3))
    (hpre : ∀ vm₁, s.WarmedH vm₁ → Pre ⟨T.setVm vm₁, locs, cells, slots⟩ (Value.ref b :: argsL).toArray) :
    (∃ (v : Option Value) (vm₁ : Vm) (B : Pt), s.WarmedH vm₁ ∧ Stand p l e R s m args below meth c B.U B.locs B.cells B.slots ∧ Post ⟨T.setVm vm₁, locs, cells, slots⟩ (Value.ref b :: argsL).toArray v B ∧
      ∀ target, Steps p.tables e below (B.U.setTop { g with pc := g.pc + 3, stack := v.toList ++ rest }) target → Steps p.tables e below (T.setTop g) target) ∨
    (∃ (q : Addr) (vm₁ : Vm) (B : Pt), s.WarmedH vm₁ ∧ Stand p l e R s m args below meth c B.U B.locs B.cells B.slots ∧ PostX ⟨T.setVm vm₁, locs, cells, slots⟩ (Value.ref b :: argsL).toArray q B ∧
      Steps p.tables e below (T.setTop g) ((B.U.setTop { g with stack := rest }).pushFrame (.throwing q))) := by
  obtain ⟨mk, methM, hnamed, hmethM, hstM, habM⟩ := Cond.instanceMethod_spec hinst
  obtain ⟨methM', cM, hmethM', -, -, -, -, -, -, hsigM⟩ := Cond.code_spec hnamed hcode
  cases hmethM.symm.trans hmethM'
  obtain ⟨c2, r2, m2, q1, q2, q3, q4, kP, hkP, hkPi⟩ := Cond.selects_spec hsel
  cases hcls.symm.trans q1
  cases (State.methodFound?_of_named hnamed hy).symm.trans q2
  cases hnamed.symm.trans q3
  have hselP : selectMethod e.platform s.vm cellB.cls mk = .method mk := by rw [Launch.admits_selectMethod X.admits]; exact q4
  obtain ⟨vm₁, X₁, hstep₁⟩ := X.invokevirtual hexec hown hlink hnamed hmethM hstM hkP hkPi hy (a := b) (cell := cellB) hcell
    (fun z h => by rw [h] at hobj; cases hobj) hselP hmethM habM hkP hkPi (g := g) hg (argsL := argsL) (rest := rest) (hlen _ hsigM) hstack hdg
  rcases hK m meth c ⟨T.setVm vm₁, locs, cells, slots⟩ { g with stack := rest } (.invokevirtual index) mk (Value.ref b :: argsL).toArray X₁ hg hsize hdg hW (X₁.named hnamed) (hpre vm₁ X₁.warmed) with ⟨v, B, X', hpost, hsteps⟩ | ⟨q, B, X', hpost, hsteps⟩
  · exact Or.inl ⟨v, vm₁, B, X₁.warmed, X', hpost, fun target h => hstep₁ _ fun acts => by rw [doInvoke_state]; exact hsteps.trans h⟩
  · exact Or.inr ⟨q, vm₁, B, X₁.warmed, X', hpost, hstep₁ _ fun acts => by rw [doInvoke_state]; exact hsteps⟩
theorem vx_callS (X : Stand p l e R s m args below meth c T locs cells slots) (hexec : p.tables.exec = Jvm.exec) {own : String} {index : Nat} {y : MethodName} {bytes : ByteArray} {maxL : Nat} {ret : Option FieldType}
    (hown : s.vm.findClass own = some m.cls) (hlink : (Cond.methodLink own index y).before args s = true) (hstat : (Cond.static y).before args s = true) (hinit : (Cond.initialized y.cls).before args s = true)
    (hcode : (Cond.code y bytes maxL ret).before args s = true) (hy : y.cls ≠ "java/lang/invoke/MethodHandle" ∧ y.cls ≠ "java/lang/invoke/VarHandle")
    {W9 : Nat} {Pre : Pt → Array Value → Prop} {Post : Pt → Array Value → Option Value → Pt → Prop} {PostX : Pt → Array Value → Addr → Pt → Prop} (hK : vx_Back l R p e below s args y 3 W9 Pre Post PostX)
    {g : JFrame} (hg : g.method = m) (hsize : g.locals.size = c.maxLocals) {argsL rest : List Value} (hlen : ∀ sig, parseMethodDescriptor y.desc = some sig → argsL.length = sig.parameters.length)
    (hstack : g.stack = argsL.reverse ++ rest) (hW : 2 * g.monitorRoom + (rest.map fun v => v.category).sum ≤ W9) (hdg : decode c.code g.pc = .ok (.invokestatic index, 3))
    (hpre : ∀ vm₁, s.WarmedH vm₁ → Pre ⟨T.setVm vm₁, locs, cells, slots⟩ argsL.toArray) :
    (∃ (v : Option Value) (vm₁ : Vm) (B : Pt), s.WarmedH vm₁ ∧ Stand p l e R s m args below meth c B.U B.locs B.cells B.slots ∧ Post ⟨T.setVm vm₁, locs, cells, slots⟩ argsL.toArray v B ∧
      ∀ target, Steps p.tables e below (B.U.setTop { g with pc := g.pc + 3, stack := v.toList ++ rest }) target → Steps p.tables e below (T.setTop g) target) ∨
    (∃ (q : Addr) (vm₁ : Vm) (B : Pt), s.WarmedH vm₁ ∧ Stand p l e R s m args below meth c B.U B.locs B.cells B.slots ∧ PostX ⟨T.setVm vm₁, locs, cells, slots⟩ argsL.toArray q B ∧
      Steps p.tables e below (T.setTop g) ((B.U.setTop { g with stack := rest }).pushFrame (.throwing q))) := by
  obtain ⟨mk, hnamed⟩ := Cond.code_named hcode
  obtain ⟨methM, cM, hmethM, -, -, -, -, -, -, hsigM⟩ := Cond.code_spec hnamed hcode
  have hstatic : methM.isStatic = true := Cond.static_spec hnamed hmethM hstat
  obtain ⟨kP, hkP, -⟩ := className_of_methodNamed hnamed
  have hinitP : kP.init = .initialized := Cond.initialized_spec (findClass_of_methodNamed hnamed) hkP hinit
  obtain ⟨vm₁, X₁, hstep₁⟩ := X.invokestatic hexec hown hlink hnamed hmethM hstatic hkP hinitP hy (g := g) hg (argsL := argsL) (rest := rest) (hlen _ hsigM) hstack hdg
  rcases hK m meth c ⟨T.setVm vm₁, locs, cells, slots⟩ { g with stack := rest } (.invokestatic index) mk argsL.toArray X₁ hg hsize hdg hW (X₁.named hnamed) (hpre vm₁ X₁.warmed) with ⟨v, B, X', hpost, hsteps⟩ | ⟨q, B, X', hpost, hsteps⟩
  · exact Or.inl ⟨v, vm₁, B, X₁.warmed, X', hpost, fun target h => hstep₁ _ fun acts => by rw [doInvoke_state]; exact hsteps.trans h⟩
  · exact Or.inr ⟨q, vm₁, B, X₁.warmed, X', hpost, hstep₁ _ fun acts => by rw [doInvoke_state]; exact hsteps⟩
end Calls
theorem vx_cls {s : State} {T : State} {vm₁ : Vm} {E : String} {k : ClassId} (hW : s.WarmedH vm₁) (h : (T.setVm vm₁).vm.findClass E = some k) : s.vm.findClass E = some k := by
  have h1 : vm₁.findClass E = some k := h
  rw [hW.alike.findClass] at h1
  exact h1
/-- the method's frame g, with q thrown over it -/
def vx_W (p : Program) (l : Launch) (e : Env) (R : Room) (s : State) (m : MethodId) (args : Array Value) (below : List Frame) (meth : Method) (c : Code) (H : Heap) (locs : List Loc) (cells slots : Nat) (Q : State → Prop) (g : JFrame) (q : Addr) : Prop :=
  ∀ T : State, T.heap = H → Stand p l e R s m args below meth c T locs cells slots → ∃ t, Steps p.tables e below ((T.setTop g).pushFrame (.throwing q)) t ∧ Q t
def vx_Run (p : Program) (l : Launch) (e : Env) (R : Room) (s : State) (m : MethodId) (args : Array Value) (below : List Frame) (meth : Method) (c : Code) (H : Heap) (locs : List Loc) (cells slots mc ms : Nat) (g : JFrame) (rest : List Value) (Qa : State → Outcome → State → Prop) (XC : String → State → State → Prop) (free : Addr → Prop) : Prop :=
  ∀ T : State, T.heap = H → Stand p l e R s m args below meth c T locs cells slots →
    (∃ (v : Option Value) (st₀ t T' : State) (L : List Loc), st₀.heap = H ∧ Stand p l e R s m args below meth c T' (locs ++ L) (cells + mc) (slots + ms) ∧ (∀ q ∈ L, free q.base) ∧ T'.heap = t.heap ∧ T'.vm = t.vm ∧ Qa st₀ (.returned v) t ∧
      Goes p e below T g T' { g with pc := g.pc + 3, stack := v.toList ++ rest }) ∨
    (∃ (q : Addr) (st₀ t T' : State) (L : List Loc) (E : String) (ce : Cell), st₀.heap = H ∧ Stand p l e R s m args below meth c T' (locs ++ L) (cells + mc) (slots + ms) ∧ (∀ z ∈ L, free z.base) ∧ T'.heap = t.heap ∧ T'.vm = t.vm ∧ XC E st₀ t ∧ t.heap[q]? = some ce ∧ ce.vm = .none ∧ s.vm.findClass E = some ce.cls ∧
      Steps p.tables e below (T.setTop g) ((T'.setTop { g with stack := rest }).pushFrame (.throwing q)))
def vx_X {S : Type} (px : S → Prop) (B : String → S → State → Prop) (A : Nat → Prop) : String → State → State → Prop := fun E st t => ∃ u : S, px u ∧ B E u t ∧ va_F A st t
section Runs
variable {p : Program} {l : Launch} {e : Env} {R : Room} {s : State} {m : MethodId} {args : Array Value} {below : List Frame} {meth : Method} {c : Code} {H : Heap} {locs : List Loc} {cells slots : Nat}
variable {y : MethodName} {bytes cc : ByteArray} {maxL nL mc ms n index : Nat} {ret : Option FieldType} {ws : List Cond} {rm : Room} {Pc : Array Value → State → Prop} {Qc : Array Value → State → Outcome → State → Prop} {XC : String → State → State → Prop} {free : Addr → Prop} {Ts : List Cond} {own C : String} {b : Addr} {As rest : List Value} {g : JFrame}
theorem vx_callBack (cb : CallB R s args own index y bytes maxL ret ws rm mc ms n) (hM : vx_Met l y ws rm Pc Qc XC mc ms free) (hbl : FrameBlind Pc) : vx_Back l R p e below s args y 3 8 (PreOf R mc ms Pc) (PostOf Qc mc ms free) (vx_Post XC mc ms free) := by
  obtain ⟨hrc, hrs, hfr, hlo, hws, hcw, -, hini, -⟩ := cb
  exact vx_back (bytes := bytes) (maxL := maxL) (ret := ret) hM hbl hrc hrs hfr hlo hws hcw (fun a' U hW => word_at hW (Or.inl (by first | rfl | simp [Cond.onTables, Cond.keeps, Cond.steady])) hini)
theorem vx_runV (S : CallFix p m c cc nL s args Ts own) (hM : vx_Met l y ws rm Pc Qc XC mc ms free) (cw : CallW R s args own C index y bytes maxL ret ws rm mc ms n) (hp : PreV s H C b Pc As)
    (hg : g.method = m) (hn : As.length = n) (hsize : g.locals.size = nL) (hstack : g.stack = As.reverse ++ .ref b :: rest) (hW : 2 * g.monitorRoom + (rest.map fun v => v.category).sum ≤ 8) (hdg : decode cc g.pc = .ok (.invokevirtual index, 3)) (hf : cells + mc ≤ R.cells ∧ slots + ms ≤ R.slots) :
    vx_Run p l e R s m args below meth c H locs cells slots mc ms g rest (Qc (Value.ref b :: As).toArray) XC free := by
  have hK : vx_Back l R p e below s args y 3 8 (PreOf R mc ms Pc) (PostOf Qc mc ms free) (vx_Post XC mc ms free) := vx_callBack cw.1 hM hp.1
  obtain ⟨⟨-, -, -, -, -, -, hcode, -, hy, hlen, hl⟩, hin, hse⟩ := cw
  obtain ⟨hx, hb, hml, ho, -⟩ := S
  obtain ⟨-, ⟨cellB, hcB, hoB, hclB⟩, hPc⟩ := hp
  intro T hT X
  rcases vx_callV X hx (C := C) (bytes := bytes) (maxL := maxL) (ret := ret) ho hl hin hse hcode hy hK (by rw [hT]; exact hcB) hoB hclB hg (hsize.trans hml.symm) (argsL := As) (rest := rest) (fun sig h => hn.trans (hlen sig h)) hstack hW (by rw [hb]; exact hdg)
    (fun vm₁ hW₁ => ⟨hf.1, hf.2, hPc (T.setVm vm₁) hT hW₁⟩) with ⟨v, vm₁, ⟨U', l2, c2, s2⟩, hW₁, X', ⟨g', mk, t, L, e1, e2, hq, h1, hL, h2, h3⟩, st⟩ | ⟨q, vm₁, ⟨U', l2, c2, s2⟩, hW₁, X', ⟨g', mk, t, L, E, ce, e1, e2, hq, hce, hcv, hcl, h1, hL, h2, h3⟩, st⟩
  · dsimp only [Pt.U, Pt.locs, Pt.cells, Pt.slots] at X' e1 e2 h1 h2 h3 st
    subst h1; subst h2; subst h3
    exact Or.inl ⟨v, (T.setVm vm₁).calling g' mk (Value.ref b :: As).toArray, t, U', L, hT, X', hL, e1, e2, hq, st⟩
  · dsimp only [Pt.U, Pt.locs, Pt.cells, Pt.slots] at X' e1 e2 h1 h2 h3 st hcl
    subst h1; subst h2; subst h3
    exact Or.inr ⟨q, (T.setVm vm₁).calling g' mk (Value.ref b :: As).toArray, t, U', L, E, ce, hT, X', hL, e1, e2, hq, hce, hcv, vx_cls hW₁ hcl, st⟩
theorem vx_runS (S : CallFix p m c cc nL s args Ts own) (hM : vx_Met l y ws rm Pc Qc XC mc ms free) (cw : CallB R s args own index y bytes maxL ret ws rm mc ms n ∧ (Cond.static y).before args s = true) (hp : PreS s H Pc As)
    (hg : g.method = m) (hn : As.length = n) (hsize : g.locals.size = nL) (hstack : g.stack = As.reverse ++ rest) (hW : 2 * g.monitorRoom + (rest.map fun v => v.category).sum ≤ 8) (hdg : decode cc g.pc = .ok (.invokestatic index, 3)) (hf : cells + mc ≤ R.cells ∧ slots + ms ≤ R.slots) :
    vx_Run p l e R s m args below meth c H locs cells slots mc ms g rest (Qc As.toArray) XC free := by
  have hK : vx_Back l R p e below s args y 3 8 (PreOf R mc ms Pc) (PostOf Qc mc ms free) (vx_Post XC mc ms free) := vx_callBack cw.1 hM hp.1
  obtain ⟨⟨-, -, -, -, -, -, hcode, hini, hy, hlen, hl⟩, hstt⟩ := cw
  obtain ⟨hx, hb, hml, ho, -⟩ := S
  intro T hT X
  rcases vx_callS X hx (bytes := bytes) (maxL := maxL) (ret := ret) ho hl hstt hini hcode hy hK hg (hsize.trans hml.symm) (argsL := As) (rest := rest) (fun sig h => hn.trans (hlen sig h)) hstack hW (by rw [hb]; exact hdg)
    (fun vm₁ hW₁ => ⟨hf.1, hf.2, hp.2 (T.setVm vm₁) hT hW₁⟩) with ⟨v, vm₁, ⟨U', l2, c2, s2⟩, hW₁, X', ⟨g', mk, t, L, e1, e2, hq, h1, hL, h2, h3⟩, st⟩ | ⟨q, vm₁, ⟨U', l2, c2, s2⟩, hW₁, X', ⟨g', mk, t, L, E, ce, e1, e2, hq, hce, hcv, hcl, h1, hL, h2, h3⟩, st⟩
  · dsimp only [Pt.U, Pt.locs, Pt.cells, Pt.slots] at X' e1 e2 h1 h2 h3 st
    subst h1; subst h2; subst h3
    exact Or.inl ⟨v, (T.setVm vm₁).calling g' mk As.toArray, t, U', L, hT, X', hL, e1, e2, hq, st⟩
  · dsimp only [Pt.U, Pt.locs, Pt.cells, Pt.slots] at X' e1 e2 h1 h2 h3 st hcl
    subst h1; subst h2; subst h3
    exact Or.inr ⟨q, (T.setVm vm₁).calling g' mk As.toArray, t, U', L, E, ce, hT, X', hL, e1, e2, hq, hce, hcv, vx_cls hW₁ hcl, st⟩
end Runs
section Rows
variable {p : Program} {l : Launch} {e : Env} {R : Room} {s : State} {m : MethodId} {args : Array Value} {below : List Frame} {meth : Method} {c : Code} {H : Heap} {locs : List Loc} {cells slots : Nat} {Q : State → Prop}
variable {mc ms : Nat} {free : Addr → Prop} {A0 A1 : Nat → Prop} {H0 : Heap} {a : Array Value} {pc : Nat} {ls : Array Slot} {st0 rest : List Value}
theorem vx_keep {st₀ t T' : State} {L : List Loc} (h0 : st₀.heap = H) (e1 : T'.heap = t.heap) (hS : va_S A0 H0 H locs) (hA : ∀ q, q < H.size → A1 q → A0 q) (hf : ∀ q, free q → A0 q) (hL : ∀ q ∈ L, free q.base) (hF : va_F A1 st₀ t) :
    H.size ≤ T'.heap.size ∧ (∀ q : Nat, q < H.size → ¬ A1 q → T'.heap[q]? = H[q]?) ∧ va_S A0 H0 T'.heap (locs ++ L) := by
  obtain ⟨hz, hk⟩ := hF
  rw [h0] at hz hk
  exact ⟨by rw [e1]; exact hz, fun q h1 h2 => by rw [e1]; exact hk q h1 h2,
    ⟨Nat.le_trans hS.1 (by rw [e1]; exact hz), fun q h1 h2 => by rw [e1, hk q (Nat.lt_of_lt_of_le h1 hS.1) (fun z => h2 (hA q (Nat.lt_of_lt_of_le h1 hS.1) z))]; exact hS.2.1 q h1 h2, fun q hq => by
      rcases List.mem_append.mp hq with h | h
      · exact hS.2.2 q h
      · exact hf _ (hL q h)⟩⟩
theorem vx_calli {S SX : Type} {post : Int32 → S → Prop} {px : SX → Prop} {B : S → State → Prop} {BX : String → SX → State → Prop} {AX : Nat → Prop} (hr : vx_Run p l e R s m args below meth c H locs cells slots mc ms (F0 m pc ls st0) rest (va_Qi post B A1 a) (vx_X px BX AX) free) (hS : va_S A0 H0 H locs) (hA : ∀ q, q < H.size → A1 q → A0 q) (hf : ∀ q, free q → A0 q) (hAX : ∀ q, q < H.size → AX q → A0 q)
    (kx : ∀ (E : String) (ce : Cell) (q9 : Addr) (u : SX) (t : State) (H1 : Heap) (locs1 : List Loc), t.heap = H1 → s.vm.Alike t.vm → px u → BX E u t → H.size ≤ H1.size → (∀ q : Nat, q < H.size → ¬ AX q → H1[q]? = H[q]?) → va_S A0 H0 H1 locs1 → H1[q9]? = some ce → ce.vm = .none → s.vm.findClass E = some ce.cls → vx_W p l e R s m args below meth c H1 locs1 (cells + mc) (slots + ms) Q (F0 m pc ls rest) q9)
    (kk : ∀ (r : Int32) (u : S) (t : State) (H1 : Heap) (locs1 : List Loc), t.heap = H1 → s.vm.Alike t.vm → post r u → B u t → H.size ≤ H1.size → (∀ q : Nat, q < H.size → ¬ A1 q → H1[q]? = H[q]?) → va_S A0 H0 H1 locs1 → W p l e R s m args below meth c H1 locs1 (cells + mc) (slots + ms) Q (F0 m (pc + 3) ls (.int r :: rest))) : W p l e R s m args below meth c H locs cells slots Q (F0 m pc ls st0) := by
  intro T hT X
  rcases hr T hT X with ⟨v, st₀, t, T', L, h0, X', hL, e1, e2, ⟨⟨r, u, hv, hp, hb⟩, hF⟩, st⟩ | ⟨q, st₀, t, T', L, E, ce, h0, X', hL, e1, e2, ⟨u, hp, hb, hF⟩, hce, hcv, hcl, st⟩
  · cases hv
    obtain ⟨k1, k2, k3⟩ := vx_keep h0 e1 hS hA hf hL hF
    obtain ⟨t2, a1, b1⟩ := kk r u t T'.heap (locs ++ L) e1.symm (by rw [← e2]; exact X'.warmed.alike) hp hb k1 k2 k3 T' rfl X'
    exact ⟨t2, st t2 a1, b1⟩
  · obtain ⟨k1, k2, k3⟩ := vx_keep h0 e1 hS hAX hf hL hF
    obtain ⟨t2, a1, b1⟩ := kx E ce q u t T'.heap (locs ++ L) e1.symm (by rw [← e2]; exact X'.warmed.alike) hp hb k1 k2 k3 (by rw [e1]; exact hce) hcv hcl T' rfl X'
    exact ⟨t2, st.trans a1, b1⟩
theorem vx_calll {S SX : Type} {post : Int64 → S → Prop} {px : SX → Prop} {B : S → State → Prop} {BX : String → SX → State → Prop} {AX : Nat → Prop} (hr : vx_Run p l e R s m args below meth c H locs cells slots mc ms (F0 m pc ls st0) rest (va_Ql post B A1 a) (vx_X px BX AX) free) (hS : va_S A0 H0 H locs) (hA : ∀ q, q < H.size → A1 q → A0 q) (hf : ∀ q, free q → A0 q) (hAX : ∀ q, q < H.size → AX q → A0 q)
    (kx : ∀ (E : String) (ce : Cell) (q9 : Addr) (u : SX) (t : State) (H1 : Heap) (locs1 : List Loc), t.heap = H1 → s.vm.Alike t.vm → px u → BX E u t → H.size ≤ H1.size → (∀ q : Nat, q < H.size → ¬ AX q → H1[q]? = H[q]?) → va_S A0 H0 H1 locs1 → H1[q9]? = some ce → ce.vm = .none → s.vm.findClass E = some ce.cls → vx_W p l e R s m args below meth c H1 locs1 (cells + mc) (slots + ms) Q (F0 m pc ls rest) q9)
    (kk : ∀ (r : Int64) (u : S) (t : State) (H1 : Heap) (locs1 : List Loc), t.heap = H1 → s.vm.Alike t.vm → post r u → B u t → H.size ≤ H1.size → (∀ q : Nat, q < H.size → ¬ A1 q → H1[q]? = H[q]?) → va_S A0 H0 H1 locs1 → W p l e R s m args below meth c H1 locs1 (cells + mc) (slots + ms) Q (F0 m (pc + 3) ls (.long r :: rest))) : W p l e R s m args below meth c H locs cells slots Q (F0 m pc ls st0) := by
  intro T hT X
  rcases hr T hT X with ⟨v, st₀, t, T', L, h0, X', hL, e1, e2, ⟨⟨r, u, hv, hp, hb⟩, hF⟩, st⟩ | ⟨q, st₀, t, T', L, E, ce, h0, X', hL, e1, e2, ⟨u, hp, hb, hF⟩, hce, hcv, hcl, st⟩
  · cases hv
    obtain ⟨k1, k2, k3⟩ := vx_keep h0 e1 hS hA hf hL hF
    obtain ⟨t2, a1, b1⟩ := kk r u t T'.heap (locs ++ L) e1.symm (by rw [← e2]; exact X'.warmed.alike) hp hb k1 k2 k3 T' rfl X'
    exact ⟨t2, st t2 a1, b1⟩
  · obtain ⟨k1, k2, k3⟩ := vx_keep h0 e1 hS hAX hf hL hF
    obtain ⟨t2, a1, b1⟩ := kx E ce q u t T'.heap (locs ++ L) e1.symm (by rw [← e2]; exact X'.warmed.alike) hp hb k1 k2 k3 (by rw [e1]; exact hce) hcv hcl T' rfl X'
    exact ⟨t2, st.trans a1, b1⟩
theorem vx_callf {S SX : Type} {post : UInt32 → S → Prop} {px : SX → Prop} {B : S → State → Prop} {BX : String → SX → State → Prop} {AX : Nat → Prop} (hr : vx_Run p l e R s m args below meth c H locs cells slots mc ms (F0 m pc ls st0) rest (va_Qf post B A1 a) (vx_X px BX AX) free) (hS : va_S A0 H0 H locs) (hA : ∀ q, q < H.size → A1 q → A0 q) (hf : ∀ q, free q → A0 q) (hAX : ∀ q, q < H.size → AX q → A0 q)
    (kx : ∀ (E : String) (ce : Cell) (q9 : Addr) (u : SX) (t : State) (H1 : Heap) (locs1 : List Loc), t.heap = H1 → s.vm.Alike t.vm → px u → BX E u t → H.size ≤ H1.size → (∀ q : Nat, q < H.size → ¬ AX q → H1[q]? = H[q]?) → va_S A0 H0 H1 locs1 → H1[q9]? = some ce → ce.vm = .none → s.vm.findClass E = some ce.cls → vx_W p l e R s m args below meth c H1 locs1 (cells + mc) (slots + ms) Q (F0 m pc ls rest) q9)
    (kk : ∀ (r : UInt32) (u : S) (t : State) (H1 : Heap) (locs1 : List Loc), t.heap = H1 → s.vm.Alike t.vm → post r u → B u t → H.size ≤ H1.size → (∀ q : Nat, q < H.size → ¬ A1 q → H1[q]? = H[q]?) → va_S A0 H0 H1 locs1 → W p l e R s m args below meth c H1 locs1 (cells + mc) (slots + ms) Q (F0 m (pc + 3) ls (.float r :: rest))) : W p l e R s m args below meth c H locs cells slots Q (F0 m pc ls st0) := by
  intro T hT X
  rcases hr T hT X with ⟨v, st₀, t, T', L, h0, X', hL, e1, e2, ⟨⟨r, u, hv, hp, hb⟩, hF⟩, st⟩ | ⟨q, st₀, t, T', L, E, ce, h0, X', hL, e1, e2, ⟨u, hp, hb, hF⟩, hce, hcv, hcl, st⟩
  · cases hv
    obtain ⟨k1, k2, k3⟩ := vx_keep h0 e1 hS hA hf hL hF
    obtain ⟨t2, a1, b1⟩ := kk r u t T'.heap (locs ++ L) e1.symm (by rw [← e2]; exact X'.warmed.alike) hp hb k1 k2 k3 T' rfl X'
    exact ⟨t2, st t2 a1, b1⟩
  · obtain ⟨k1, k2, k3⟩ := vx_keep h0 e1 hS hAX hf hL hF
    obtain ⟨t2, a1, b1⟩ := kx E ce q u t T'.heap (locs ++ L) e1.symm (by rw [← e2]; exact X'.warmed.alike) hp hb k1 k2 k3 (by rw [e1]; exact hce) hcv hcl T' rfl X'
    exact ⟨t2, st.trans a1, b1⟩
theorem vx_calld {S SX : Type} {post : UInt64 → S → Prop} {px : SX → Prop} {B : S → State → Prop} {BX : String → SX → State → Prop} {AX : Nat → Prop} (hr : vx_Run p l e R s m args below meth c H locs cells slots mc ms (F0 m pc ls st0) rest (va_Qd post B A1 a) (vx_X px BX AX) free) (hS : va_S A0 H0 H locs) (hA : ∀ q, q < H.size → A1 q → A0 q) (hf : ∀ q, free q → A0 q) (hAX : ∀ q, q < H.size → AX q → A0 q)
    (kx : ∀ (E : String) (ce : Cell) (q9 : Addr) (u : SX) (t : State) (H1 : Heap) (locs1 : List Loc), t.heap = H1 → s.vm.Alike t.vm → px u → BX E u t → H.size ≤ H1.size → (∀ q : Nat, q < H.size → ¬ AX q → H1[q]? = H[q]?) → va_S A0 H0 H1 locs1 → H1[q9]? = some ce → ce.vm = .none → s.vm.findClass E = some ce.cls → vx_W p l e R s m args below meth c H1 locs1 (cells + mc) (slots + ms) Q (F0 m pc ls rest) q9)
    (kk : ∀ (r : UInt64) (u : S) (t : State) (H1 : Heap) (locs1 : List Loc), t.heap = H1 → s.vm.Alike t.vm → post r u → B u t → H.size ≤ H1.size → (∀ q : Nat, q < H.size → ¬ A1 q → H1[q]? = H[q]?) → va_S A0 H0 H1 locs1 → W p l e R s m args below meth c H1 locs1 (cells + mc) (slots + ms) Q (F0 m (pc + 3) ls (.double r :: rest))) : W p l e R s m args below meth c H locs cells slots Q (F0 m pc ls st0) := by
  intro T hT X
  rcases hr T hT X with ⟨v, st₀, t, T', L, h0, X', hL, e1, e2, ⟨⟨r, u, hv, hp, hb⟩, hF⟩, st⟩ | ⟨q, st₀, t, T', L, E, ce, h0, X', hL, e1, e2, ⟨u, hp, hb, hF⟩, hce, hcv, hcl, st⟩
  · cases hv
    obtain ⟨k1, k2, k3⟩ := vx_keep h0 e1 hS hA hf hL hF
    obtain ⟨t2, a1, b1⟩ := kk r u t T'.heap (locs ++ L) e1.symm (by rw [← e2]; exact X'.warmed.alike) hp hb k1 k2 k3 T' rfl X'
    exact ⟨t2, st t2 a1, b1⟩
  · obtain ⟨k1, k2, k3⟩ := vx_keep h0 e1 hS hAX hf hL hF
    obtain ⟨t2, a1, b1⟩ := kx E ce q u t T'.heap (locs ++ L) e1.symm (by rw [← e2]; exact X'.warmed.alike) hp hb k1 k2 k3 (by rw [e1]; exact hce) hcv hcl T' rfl X'
    exact ⟨t2, st.trans a1, b1⟩
theorem vx_callv {S SX : Type} {post : S → Prop} {px : SX → Prop} {B : S → State → Prop} {BX : String → SX → State → Prop} {AX : Nat → Prop} (hr : vx_Run p l e R s m args below meth c H locs cells slots mc ms (F0 m pc ls st0) rest (va_Qv post B A1 a) (vx_X px BX AX) free) (hS : va_S A0 H0 H locs) (hA : ∀ q, q < H.size → A1 q → A0 q) (hf : ∀ q, free q → A0 q) (hAX : ∀ q, q < H.size → AX q → A0 q)
    (kx : ∀ (E : String) (ce : Cell) (q9 : Addr) (u : SX) (t : State) (H1 : Heap) (locs1 : List Loc), t.heap = H1 → s.vm.Alike t.vm → px u → BX E u t → H.size ≤ H1.size → (∀ q : Nat, q < H.size → ¬ AX q → H1[q]? = H[q]?) → va_S A0 H0 H1 locs1 → H1[q9]? = some ce → ce.vm = .none → s.vm.findClass E = some ce.cls → vx_W p l e R s m args below meth c H1 locs1 (cells + mc) (slots + ms) Q (F0 m pc ls rest) q9)
    (kk : ∀ (u : S) (t : State) (H1 : Heap) (locs1 : List Loc), t.heap = H1 → s.vm.Alike t.vm → post u → B u t → H.size ≤ H1.size → (∀ q : Nat, q < H.size → ¬ A1 q → H1[q]? = H[q]?) → va_S A0 H0 H1 locs1 → W p l e R s m args below meth c H1 locs1 (cells + mc) (slots + ms) Q (F0 m (pc + 3) ls (rest))) : W p l e R s m args below meth c H locs cells slots Q (F0 m pc ls st0) := by
  intro T hT X
  rcases hr T hT X with ⟨v, st₀, t, T', L, h0, X', hL, e1, e2, ⟨⟨u, hv, hp, hb⟩, hF⟩, st⟩ | ⟨q, st₀, t, T', L, E, ce, h0, X', hL, e1, e2, ⟨u, hp, hb, hF⟩, hce, hcv, hcl, st⟩
  · cases hv
    obtain ⟨k1, k2, k3⟩ := vx_keep h0 e1 hS hA hf hL hF
    obtain ⟨t2, a1, b1⟩ := kk u t T'.heap (locs ++ L) e1.symm (by rw [← e2]; exact X'.warmed.alike) hp hb k1 k2 k3 T' rfl X'
    exact ⟨t2, st t2 a1, b1⟩
  · obtain ⟨k1, k2, k3⟩ := vx_keep h0 e1 hS hAX hf hL hF
    obtain ⟨t2, a1, b1⟩ := kx E ce q u t T'.heap (locs ++ L) e1.symm (by rw [← e2]; exact X'.warmed.alike) hp hb k1 k2 k3 (by rw [e1]; exact hce) hcv hcl T' rfl X'
    exact ⟨t2, st.trans a1, b1⟩
end Rows
section Ends
variable {p : Program} {l : Launch} {e : Env} {R : Room} {s : State} {m : MethodId} {args : Array Value} {below : List Frame} {meth : Method} {c : Code} {H : Heap} {locs : List Loc} {cells slots : Nat} {Q : State → Prop}
variable {mc ms : Nat} {free : Addr → Prop} {A0 A1 : Nat → Prop} {H0 : Heap} {a : Array Value} {ls : Array Slot} {st0 rest : List Value}
variable {Qc : Array Value → State → Outcome → State → Prop} {XC : String → State → State → Prop}
/-- what a body that may throw owes at its end -/
def vx_MQ (below : List Frame) (Qc : Array Value → State → Outcome → State → Prop) (XC : String → State → State → Prop) (a : Array Value) (s : State) (mc ms : Nat) (free : Addr → Prop) : State → Prop := fun t =>
  ∃ o, t.status = .running ∧ Ended t below o ∧ vx_Q Qc XC mc ms free a s o t
theorem vx_ret {g : JFrame} {mc ms : Nat} (k : W p l e R s m args below meth c H locs cells slots (MQ below Qc args s mc ms free) g) : W p l e R s m args below meth c H locs cells slots (vx_MQ below Qc XC args s mc ms free) g := by
  intro T hT X
  obtain ⟨t, a1, o, b1, b2, b3, b4⟩ := k T hT X
  exact ⟨t, a1, o, b1, b2, Or.inl ⟨b3, b4⟩⟩
/-- not caught here: it goes on to the caller -/
theorem vx_widen {g : JFrame} {q : Addr} {k n : Nat} (h1 : cells ≤ k) (h2 : slots ≤ n) (kk : vx_W p l e R s m args below meth c H locs k n Q g q) : vx_W p l e R s m args below meth c H locs cells slots Q g q := fun T hT X => kk T hT (stand_widen X h1 h2)
theorem vx_out {pc : Nat} {E : String} {ce : Cell} {q : Addr} {mc ms : Nat} (hout : ∀ x ∈ c.exceptionTable.toList, covers x pc = false) (hlocks : meth.locks = false) (hcell : H[q]? = some ce) (hv : ce.vm = .none) (hcl : s.vm.findClass E = some ce.cls)
    (hx : ∀ t : State, t.heap = H → s.vm.Alike t.vm → XC E s t) (hf : ∀ z ∈ locs, free z.base) (hc : cells ≤ mc) (hs : slots ≤ ms) :
    vx_W p l e R s m args below meth c H locs cells slots (vx_MQ below Qc XC args s mc ms free) (F0 m pc ls rest) q := by
  intro T hT X
  obtain ⟨st1, hrun, hend, hW, hsm⟩ := X.leaveThrown q (g := F0 m pc ls rest) rfl rfl rfl hout hlocks
  have hcell9 : (T.setFrames (.throwing q :: below)).heap[q]? = some ce := by
    show T.heap[q]? = some ce
    rw [hT]; exact hcell
  exact ⟨_, st1, .threw q, hrun, hend, Or.inr ⟨q, rfl, E, ce, locs, hx _ hT hW.alike, hcell9, hv, hcl, hW, hsm.mono hc hs, hf⟩⟩
theorem vx_frame {U : State} {k n : Nat} (h : s.sameButNew ({ U with vm := s.vm } : State) locs k n) : s.heap.size ≤ U.heap.size ∧ ∀ q : Nat, q < s.heap.size → (∀ z ∈ locs, z.base ≠ q) → U.heap[q]? = s.heap[q]? := by
  obtain ⟨-, h2, -, -, -, h6⟩ := h
  refine ⟨h2, fun q hq hz => ?_⟩
  obtain ⟨c9, e1, e2, e3, e4⟩ := h6 q _ (Array.getElem?_eq_getElem hq)
  have hs : c9.slots = (s.heap[q]).slots := Array.ext_getElem? fun i => e4 i fun hm => hz _ hm rfl
  have h9 : c9 = s.heap[q] := by
    rw [hs] at e2
    exact e2
  have e5 : U.heap[q]? = some c9 := e1
  rw [e5, h9, Array.getElem?_eq_getElem hq]
/-- the words of a throw but the four that speak of the heap -/
def vx_no (w : Cond) : Bool := decide (w ≠ .isRef (.static Bundle.tN "UNASSIGNED_STACK" Bundle.steD)) && decide (w ≠ .isRef (.static Bundle.tN "SUPPRESSED_SENTINEL" Bundle.listD)) && decide (w ≠ .laysStatic Bundle.tN "UNASSIGNED_STACK" Bundle.steD) && decide (w ≠ .laysStatic Bundle.tN "SUPPRESSED_SENTINEL" Bundle.listD)
def vx_at0 (own : String) (ic : Nat) (X : String) (names : List String) : List Cond := (Bundle.ownAtoms0 own ic X names).filter vx_no
def vx_atS (own : String) (ic : Nat) (X : String) (names : List String) : List Cond := (Bundle.ownAtoms own ic X names).filter vx_no
/-- a word that the tables alone decide, or a good one -/
def vx_ot (w : Cond) : Bool := w.onTables || goodWord w
theorem vx_ot_at {args a' : Array Value} {s U : State} {w : Cond} (hW : s.WarmedH U.vm) (hvm : s.vm = U.vm) (hg : vx_ot w = true) (h : w.before args s = true) : w.before a' U = true := by
  simp only [vx_ot, Bool.or_eq_true] at hg
  rcases hg with hg | hg
  · exact va_tabs hg hvm h
  · exact word_at hW (good_of_word hg) h
/-- a list's words: the good ones out of the method's own list, the others by premises of their own -/
theorem vx_hat {args : Array Value} {s : State} {L B : List Cond} (h1 : ∀ w ∈ L.filter goodWord, w.before args s = true) (h2 : ∀ w ∈ L.filter (fun w => !goodWord w), w ∈ B) (h3 : ∀ w ∈ B, w.before args s = true) : ∀ w ∈ L, w.before args s = true := by
  intro w hw
  by_cases g : goodWord w = true
  · exact h1 w (List.mem_filter.mpr ⟨hw, g⟩)
  · refine h3 w (h2 w (List.mem_filter.mpr ⟨hw, ?_⟩))
    show (!goodWord w) = true
    cases hgw : goodWord w
    · rfl
    · exact absurd hgw g
theorem vx_c {args : Array Value} {s : State} {w : Cond} {B : List Cond} (h : w.before args s = true) (t : ∀ w ∈ B, w.before args s = true) : ∀ w' ∈ w :: B, w'.before args s = true := fun w' h' => (List.mem_cons.mp h').elim (fun e => by rw [e]; exact h) (t w')
theorem vx_n {args : Array Value} {s : State} : ∀ w ∈ ([] : List Cond), w.before args s = true := fun _ h => nomatch h
theorem vx_own {args : Array Value} {s : State} {L : List Cond} (h1 : ∀ w ∈ L.filter vx_no, w.before args s = true)
    (hU : (Cond.isRef (.static Bundle.tN "UNASSIGNED_STACK" Bundle.steD)).before args s = true) (hN : (Cond.isRef (.static Bundle.tN "SUPPRESSED_SENTINEL" Bundle.listD)).before args s = true)
    (lU : (Cond.laysStatic Bundle.tN "UNASSIGNED_STACK" Bundle.steD).before args s = true) (lN : (Cond.laysStatic Bundle.tN "SUPPRESSED_SENTINEL" Bundle.listD).before args s = true) : ∀ w ∈ L, w.before args s = true := by
  intro w hw
  by_cases e1 : w = .isRef (.static Bundle.tN "UNASSIGNED_STACK" Bundle.steD)
  · rw [e1]; exact hU
  · by_cases e2 : w = .isRef (.static Bundle.tN "SUPPRESSED_SENTINEL" Bundle.listD)
    · rw [e2]; exact hN
    · by_cases e3 : w = .laysStatic Bundle.tN "UNASSIGNED_STACK" Bundle.steD
      · rw [e3]; exact lU
      · by_cases e4 : w = .laysStatic Bundle.tN "SUPPRESSED_SENTINEL" Bundle.listD
        · rw [e4]; exact lN
        · exact h1 w (List.mem_filter.mpr ⟨hw, by unfold vx_no; rw [decide_eq_true e1, decide_eq_true e2, decide_eq_true e3, decide_eq_true e4]; rfl⟩)
/-- where a static field lies, its class's statics cell in H -/
def vx_L (C n d : String) (A : Nat → Prop) (U : State) (H : Heap) : Prop := ∃ (c : ClassId) (k : Class) (i : Nat) (f : Field) (a : Nat) (cell : Cell), U.vm.findClass C = some c ∧ U.fieldFound? C n d = some (c, k, i, f) ∧ f.isStatic = true ∧ k.statics = some a ∧ H[a]? = some cell ∧ cell.vm.isStatics = true ∧ cell.cls = c ∧ f.slot < cell.slots.size ∧ k.staticTypes[f.slot]? = some f.type ∧ ¬ A a
theorem vx_L.moved {C n d : String} {A : Nat → Prop} {u U : State} {H : Heap} (hvm : u.vm.Alike U.vm) (h : vx_L C n d A u H) : vx_L C n d A U H := by
  obtain ⟨c, k, i, f, a, cell, h1, h2, h3, h4, h5, h6, h7, h8, h9, h10⟩ := h
  obtain ⟨k', hi', he⟩ := State.fieldFound?_setVm hvm h2
  exact ⟨c, k', i, f, a, cell, by rw [hvm.findClass]; exact h1, hi', h3, by rw [he]; exact h4, h5, h6, h7, h8, by rw [he]; exact h9, h10⟩
theorem vx_L.kept {C n d : String} {A : Nat → Prop} {U : State} {H H1 : Heap} (h : vx_L C n d A U H) (hq : ∀ a : Nat, a < H.size → ¬ A a → H1[a]? = H[a]?) : vx_L C n d A U H1 := by
  obtain ⟨c, k, i, f, a, cell, h1, h2, h3, h4, h5, h6, h7, h8, h9, h10⟩ := h
  exact ⟨c, k, i, f, a, cell, h1, h2, h3, h4, by rw [hq a (Array.getElem?_eq_some_iff.mp h5).1 h10]; exact h5, h6, h7, h8, h9, h10⟩
theorem vx_L.narrow {C n d : String} {A B : Nat → Prop} {U : State} {H : Heap} (h : vx_L C n d A U H) (hAB : ∀ q, B q → A q) : vx_L C n d B U H := by
  obtain ⟨c, k, i, f, a, cell, h1, h2, h3, h4, h5, h6, h7, h8, h9, h10⟩ := h
  exact ⟨c, k, i, f, a, cell, h1, h2, h3, h4, h5, h6, h7, h8, h9, fun z => h10 (hAB _ z)⟩
theorem vx_L.word {C n d : String} {A : Nat → Prop} {s : State} {args : Array Value} (h : vx_L C n d A s s.heap) : (Cond.laysStatic C n d).before args s = true := by
  obtain ⟨c, k, i, f, a, cell, h1, h2, h3, h4, h5, h6, h7, h8, h9, -⟩ := h
  show (Cond.laysStatic C n d).holds args s none s [] = true
  exact Cond.laysStatic_of h1 h2 h3 h4 h5 h6 h7 h8 h9
/-- .. and what it holds: null or some reference -/
def vx_Zq (C n d : String) (A : Nat → Prop) (U : State) (H : Heap) : Prop := va_Zq C n d A U H ∧ vx_L C n d A U H
theorem vx_Zq.moved {C n d : String} {A : Nat → Prop} {u U : State} {H : Heap} (hvm : u.vm.Alike U.vm) (h : vx_Zq C n d A u H) : vx_Zq C n d A U H := ⟨va_Zq.moved hvm h.1, vx_L.moved hvm h.2⟩
theorem vx_Zq.kept {C n d : String} {A : Nat → Prop} {U : State} {H H1 : Heap} (h : vx_Zq C n d A U H) (hq : ∀ a : Nat, a < H.size → ¬ A a → H1[a]? = H[a]?) : vx_Zq C n d A U H1 := ⟨va_Zq.kept h.1 hq, vx_L.kept h.2 hq⟩
theorem vx_Zq.narrow {C n d : String} {A B : Nat → Prop} {U : State} {H : Heap} (h : vx_Zq C n d A U H) (hAB : ∀ q, B q → A q) : vx_Zq C n d B U H := ⟨va_Zq.narrow h.1 hAB, vx_L.narrow h.2 hAB⟩
theorem vx_Zqof {args : Array Value} {s : State} {C n d : String} {A : Nat → Prop} (hl : (Cond.laysStatic C n d).before args s = true) (hini : (Cond.initialized C).before args s = true) (h : (Cond.isRef (.static C n d)).before args s = true) (hA : ∀ a : Nat, a < s.heap.size → ¬ A a) : vx_Zq C n d A s s.heap := by
  refine ⟨va_Zqof hl hini h hA, ?_⟩
  obtain ⟨c, k, i, f, a, cell, h1, h2, h3, h4, h5, h6, h7, h8, h9⟩ := Cond.laysStatic_spec hl
  exact ⟨c, k, i, f, a, cell, h1, h2, h3, h4, h5, h6, h7, h8, h9, hA a (Array.getElem?_eq_some_iff.mp h5).1⟩
theorem vx_isRef {C n d : String} {v : Value} {A : Nat → Prop} {s : State} {args : Array Value} (h : va_Z C n d v A s s.heap) (hv : v.isRef = true) : (Cond.isRef (.static C n d)).before args s = true := by
  obtain ⟨cf, kf, fi, f, a, cell, h1, h2, h3, h4, h5, h6, h7, -⟩ := h
  have he : (Term.static C n d).eval args s none [] s = some v := by
    simp [Term.eval, State.fieldNamed?, h1, h2, h4, h5, h6, h7]
  simp only [Cond.before, Cond.holds, Cond.value, he]
  cases v <;> simp_all [Value.isRef]
theorem vx_isRefq {C n d : String} {A : Nat → Prop} {s : State} {args : Array Value} (h : va_Zq C n d A s s.heap) : (Cond.isRef (.static C n d)).before args s = true := by
  rcases h with h | ⟨t, h⟩
  · exact vx_isRef h rfl
  · exact vx_isRef h rfl
/-- the same frame, seen from here: as if the method were called anew in this heap -/
theorem vx_rebase {T : State} (X : Stand p l e R s m args below meth c T locs cells slots) {R' : Room} (hf : R'.frames ≤ R.frames) (hl : R'.locals ≤ R.locals) (hc : cells + R'.cells ≤ R.cells) (hs : slots + R'.slots ≤ R.slots) :
    Stand p l e R' ((T.setVm s.vm).setFrames (.invoking m args :: below)) m args below meth c T [] 0 0 := by
  have htop : (T.setVm s.vm).topJava?.isSome := X.here.top
  have hF : ((T.setVm s.vm).setFrames (.invoking m args :: below)).frames = .invoking m args :: below := State.frames_setFrames _ (State.cur_lt_of_top htop)
  obtain ⟨g₀, hg0⟩ := Option.isSome_iff_exists.mp htop
  obtain ⟨r, hr⟩ := State.topJava?_eq_some.mp hg0
  have hl9 : e.platform.stackLimits (T.setVm s.vm).me = e.platform.stackLimits s.me := X.limits
  have hb9 : (T.setVm s.vm).me.stackBytes = s.me.stackBytes := X.bytes
  refine ⟨X.admits, X.cas, X.clock, hF, ?_, X.hears, X.method, X.code, X.here, X.tail, X.warmed, ?_, ?_, ?_⟩
  · have h := X.room
    have hU : ((T.setVm s.vm).setFrames (.invoking m args :: below)).localsInUse = s.localsInUse := by
      rw [State.localsInUse_invoking hF (meth := meth) (c := c) X.method X.code, State.localsInUse_invoking X.frames X.method X.code]
    simp only [State.hasRoom, Bool.and_eq_true, decide_eq_true_eq] at h ⊢
    obtain ⟨⟨⟨⟨h1, h2, h3, h4, h5, h6⟩, h7⟩, h8⟩, h9⟩ := h
    rw [X.frames, List.length_cons] at h2 h3
    have q1 := X.heapSize
    have q2 := X.used
    simp only [hF, hU, List.length_cons, State.stackLimits_setFrames, State.stackBytes_setFrames, hl9, hb9]
    refine ⟨⟨⟨⟨by omega, by omega, by omega, by omega, by omega, h6⟩, ?_⟩, ?_⟩, X.book⟩
    · show T.heap.size + R'.cells ≤ e.platform.maxCells
      omega
    · show T.slotsUsed + R'.slots ≤ e.platform.maxSlots
      omega
  · rw [State.stackLimits_setFrames]; rfl
  · rw [State.stackBytes_setFrames]; rfl
  · refine ⟨?_, Nat.le_refl _, Nat.le_refl _, ?_, ?_, fun a c9 h9 => ⟨c9, h9, rfl, rfl, fun _ _ => rfl⟩⟩
    · obtain ⟨t, ht, -⟩ := State.frames_cons hr
      show T.setVm s.vm = { ((T.setVm s.vm).setFrames (.invoking m args :: below)).setFrames (T.setVm s.vm).frames with heap := T.heap, slotsUsed := T.slotsUsed }
      rw [State.setFrames_setFrames, State.setFrames_self ht]
      rfl
    · show T.slotsUsed = T.slotsUsed + ((T.heap.toList.drop T.heap.size).map (·.slots.size)).sum
      rw [List.drop_eq_nil_of_le (Nat.le_of_eq Array.length_toList)]
      rfl
    · show ((T.heap.toList.drop T.heap.size).map (·.slots.size)).sum ≤ 0
      rw [List.drop_eq_nil_of_le (Nat.le_of_eq Array.length_toList)]
      exact Nat.le_refl _
/-- 'throw new E()': new; dup; invokespecial; athrow -/
theorem vx_throw0 {cc : ByteArray} {pc : Nat} (hexec : p.tables.exec = Jvm.exec) (hb : c.code = cc) (hl : l.stackTraces = false) {own cls : String} {names : List String} {ik ic mc ms : Nat} {A : Nat → Prop}
    (hown : s.vm.findClass own = some m.cls) (hcls : Bundle.fit cls = true) (hnames : ∀ n ∈ names, Bundle.fit n = true)
    (hk : (Cond.classLink own ik cls).before args s = true) (hini : (Cond.initialized cls).before args s = true) (hat : ∀ w ∈ vx_at0 own ic cls names, w.before args s = true)
    (hgood : ∀ w ∈ Cond.classLink own ik cls :: Cond.initialized cls :: vx_at0 own ic cls names, vx_ot w = true)
    (hU : vx_Zq Bundle.tN "UNASSIGNED_STACK" Bundle.steD A s s.heap) (hN : vx_Zq Bundle.tN "SUPPRESSED_SENTINEL" Bundle.listD A s s.heap) (hS : va_S A s.heap H locs) (hsize : ls.size = c.maxLocals)
    (d0 : decode cc pc = .ok (.new ik, 3)) (d3 : decode cc (pc + 3) = .ok (.dup, 1)) (d4 : decode cc (pc + 4) = .ok (.invokespecial ic, 3)) (d7 : decode cc (pc + 7) = .ok (.athrow, 1))
    (hout : ∀ x ∈ c.exceptionTable.toList, covers x (pc + 7) = false)
    (hRframes : names.length + 3 < R.frames) (hRlocals : (rest.map fun v => v.category).sum + (13 * (names.length + 1) + 42) ≤ R.locals) (hRcells : cells + 1 ≤ R.cells) (hRslots : slots + 6 ≤ R.slots) (hlocks : meth.locks = false)
    (hx : ∀ t : State, s.vm.Alike t.vm → H.size ≤ t.heap.size → (∀ q : Nat, q < H.size → t.heap[q]? = H[q]?) → XC cls s t)
    (hf : ∀ z ∈ locs, free z.base) (hc : cells + 1 ≤ mc) (hs : slots + 6 ≤ ms) :
    W p l e R s m args below meth c H locs cells slots (vx_MQ below Qc XC args s mc ms free) (F0 m pc ls rest) := by
  intro T hT X
  have htr : e.platform.stackTraces = false := (show e.platform.stackTraces = l.stackTraces by rw [X.admits.platform]).trans hl
  have Y := vx_rebase X (R' := { frames := R.frames, locals := R.locals, cells := 1, slots := 6 }) (Nat.le_refl _) (Nat.le_refl _) hRcells hRslots
  obtain ⟨s', hA⟩ : ∃ z, z = (T.setVm s.vm).setFrames (.invoking m args :: below) := ⟨_, rfl⟩
  rw [← hA] at Y
  have hvm : s'.vm = s.vm := by rw [hA]; rfl
  have hhp : s'.heap = H := by rw [hA]; exact hT
  have hW0 : s.WarmedH s'.vm := by rw [hvm]; exact State.WarmedH.refl s
  have hat' : ∀ w ∈ vx_at0 own ic cls names, w.before args s' = true := fun w hw => vx_ot_at hW0 hvm.symm (hgood w (List.mem_cons_of_mem _ (List.mem_cons_of_mem _ hw))) (hat w hw)
  have hk' : (Cond.classLink own ik cls).before args s' = true := vx_ot_at hW0 hvm.symm (hgood _ List.mem_cons_self) hk
  have hini' : (Cond.initialized cls).before args s' = true := vx_ot_at hW0 hvm.symm (hgood _ (List.mem_cons_of_mem _ List.mem_cons_self)) hini
  have hU' : vx_Zq Bundle.tN "UNASSIGNED_STACK" Bundle.steD A s' s'.heap := by rw [hhp]; exact vx_Zq.moved hW0.alike (hU.kept hS.2.1)
  have hN' : vx_Zq Bundle.tN "SUPPRESSED_SENTINEL" Bundle.listD A s' s'.heap := by rw [hhp]; exact vx_Zq.moved hW0.alike (hN.kept hS.2.1)
  have h : ∀ w ∈ Bundle.ownAtoms0 own ic cls names, w.before args s' = true := vx_own hat' (vx_isRefq hU'.1) (vx_isRefq hN'.1) hU'.2.word hN'.2.word
  have hown' : s'.vm.findClass own = some m.cls := by rw [hvm]; exact hown
  have hins : (Cond.instantiable cls 6).before args s' = true := h _ (by simp [Bundle.ownAtoms0])
  obtain ⟨vm₁, cX, kX, hfX, hkX, -, -, X₁, st1⟩ := Y.newCold hexec (own := own) (C := cls) (index := ik) (n := 6) hown' hk' hins hini'
    (g := F0 m pc ls rest) rfl (by rw [hb]; exact d0) (Nat.le_refl _) (Nat.le_refl _)
  generalize hT1 : (T.setVm vm₁).pushCell { cls := cX, slots := kX.instanceTypes.map defaultValue, vm := .none } = T1 at X₁ st1
  have hcat : (Value.ref T.heap.size).category = 1 := rfl
  have hcellA : T1.heap[T.heap.size]? = some (freshCell cX kX) := by rw [← hT1]; exact State.heap_pushCell_size _ _
  have d3' : decode c.code (pc + 3) = .ok (.dup, 1) := by rw [hb]; exact d3
  obtain ⟨U, hsteps, hrun, hend, hW, hsame, ce, hce, hO⟩ := X₁.ctorThrow0 hexec htr (own := own) (cls := cls) (names := names) (ic := ic) hown' hcls hnames h (fun x hx => nomatch hx) hfX hkX hcellA (by rw [hhp, hT]; exact Nat.le_refl _)
    (g := { method := m, pc := pc + 4, locals := ls, stack := .ref T.heap.size :: .ref T.heap.size :: rest, locked := none }) rfl hsize rfl rfl (rest := rest) rfl
    (by rw [hb]; exact d4) (by rw [hb]; exact d7) hout hRframes (by simp only [List.map_cons, List.sum_cons, hcat]; omega) hlocks
  obtain ⟨f1, f2⟩ := vx_frame hsame
  rw [hhp] at f1 f2
  have hWs : s.WarmedH U.vm := State.WarmedH.trans hW0 hW
  have hcl : s.vm.findClass cls = some ce.cls := by
    have h9 := hO.cls
    rw [hvm] at h9
    exact h9
  have hall : s.sameButNew ({ U with vm := s.vm } : State) locs mc ms := by
    subst hA
    obtain ⟨e1, e2⟩ := hsame
    rw [State.setFrames_setFrames] at e1
    have h2 : (T.setVm s.vm).sameButNew ({ U with vm := s.vm } : State) [] (0 + 1) (0 + 6) := ⟨e1, e2⟩
    have h3 := X.same.trans h2
    rw [List.append_nil] at h3
    exact h3.mono hc hs
  refine ⟨U, ?_, .threw T.heap.size, hrun, hend, Or.inr ⟨T.heap.size, rfl, cls, ce, locs, hx U hWs.alike f1 (fun q hq => f2 q hq (fun z hz => nomatch hz)), hce, hO.vm, hcl, hWs, hall, hf⟩⟩
  refine st1 _ ?_
  show Steps p.tables e below (T1.setTop { method := m, pc := pc + 3, locals := ls, stack := .ref T.heap.size :: rest, locked := none }) _
  jvm_step X₁.here [X₁.here.top, hexec, d3', Value.category]
  exact hsteps
/-- 'throw new E("text")': new; dup; ldc; invokespecial; athrow -/
theorem vx_throwS {cc : ByteArray} {pc : Nat} (hexec : p.tables.exec = Jvm.exec) (hb : c.code = cc) (hl : l.stackTraces = false) {own cls text : String} {names : List String} {ik is ic mc ms sa : Nat} {A : Nat → Prop}
    (hown : s.vm.findClass own = some m.cls) (hcls : Bundle.fit cls = true) (hnames : ∀ n ∈ names, Bundle.fit n = true)
    (hk : (Cond.classLink own ik cls).before args s = true) (hini : (Cond.initialized cls).before args s = true) (hstr : vk_R own is text sa s) (hat : ∀ w ∈ vx_atS own ic cls names, w.before args s = true)
    (hgood : ∀ w ∈ Cond.classLink own ik cls :: Cond.initialized cls :: vx_atS own ic cls names, vx_ot w = true)
    (hU : vx_Zq Bundle.tN "UNASSIGNED_STACK" Bundle.steD A s s.heap) (hN : vx_Zq Bundle.tN "SUPPRESSED_SENTINEL" Bundle.listD A s s.heap) (hS : va_S A s.heap H locs) (hsize : ls.size = c.maxLocals)
    (d0 : decode cc pc = .ok (.new ik, 3)) (d3 : decode cc (pc + 3) = .ok (.dup, 1)) (d4 : decode cc (pc + 4) = .ok (.ldc is, 2)) (d6 : decode cc (pc + 6) = .ok (.invokespecial ic, 3)) (d9 : decode cc (pc + 9) = .ok (.athrow, 1))
    (hout : ∀ x ∈ c.exceptionTable.toList, covers x (pc + 9) = false)
    (hRframes : names.length + 3 < R.frames) (hRlocals : (rest.map fun v => v.category).sum + (13 * (names.length + 1) + 43) ≤ R.locals) (hRcells : cells + 1 ≤ R.cells) (hRslots : slots + 6 ≤ R.slots) (hlocks : meth.locks = false)
    (hx : ∀ t : State, s.vm.Alike t.vm → H.size ≤ t.heap.size → (∀ q : Nat, q < H.size → t.heap[q]? = H[q]?) → XC cls s t)
    (hf : ∀ z ∈ locs, free z.base) (hc : cells + 1 ≤ mc) (hs : slots + 6 ≤ ms) :
    W p l e R s m args below meth c H locs cells slots (vx_MQ below Qc XC args s mc ms free) (F0 m pc ls rest) := by
  intro T hT X
  have htr : e.platform.stackTraces = false := (show e.platform.stackTraces = l.stackTraces by rw [X.admits.platform]).trans hl
  have Y := vx_rebase X (R' := { frames := R.frames, locals := R.locals, cells := 1, slots := 6 }) (Nat.le_refl _) (Nat.le_refl _) hRcells hRslots
  obtain ⟨s', hA⟩ : ∃ z, z = (T.setVm s.vm).setFrames (.invoking m args :: below) := ⟨_, rfl⟩
  rw [← hA] at Y
  have hvm : s'.vm = s.vm := by rw [hA]; rfl
  have hhp : s'.heap = H := by rw [hA]; exact hT
  have hW0 : s.WarmedH s'.vm := by rw [hvm]; exact State.WarmedH.refl s
  have hat' : ∀ w ∈ vx_atS own ic cls names, w.before args s' = true := fun w hw => vx_ot_at hW0 hvm.symm (hgood w (List.mem_cons_of_mem _ (List.mem_cons_of_mem _ hw))) (hat w hw)
  have hk' : (Cond.classLink own ik cls).before args s' = true := vx_ot_at hW0 hvm.symm (hgood _ List.mem_cons_self) hk
  have hini' : (Cond.initialized cls).before args s' = true := vx_ot_at hW0 hvm.symm (hgood _ (List.mem_cons_of_mem _ List.mem_cons_self)) hini
  have hU' : vx_Zq Bundle.tN "UNASSIGNED_STACK" Bundle.steD A s' s'.heap := by rw [hhp]; exact vx_Zq.moved hW0.alike (hU.kept hS.2.1)
  have hN' : vx_Zq Bundle.tN "SUPPRESSED_SENTINEL" Bundle.listD A s' s'.heap := by rw [hhp]; exact vx_Zq.moved hW0.alike (hN.kept hS.2.1)
  have h : ∀ w ∈ Bundle.ownAtoms own ic cls names, w.before args s' = true := vx_own hat' (vx_isRefq hU'.1) (vx_isRefq hN'.1) hU'.2.word hN'.2.word
  have hown' : s'.vm.findClass own = some m.cls := by rw [hvm]; exact hown
  have hins : (Cond.instantiable cls 6).before args s' = true := h _ (by simp [Bundle.ownAtoms])
  obtain ⟨vm₁, cX, kX, hfX, hkX, -, -, X₁, st1⟩ := Y.newCold hexec (own := own) (C := cls) (index := ik) (n := 6) hown' hk' hins hini'
    (g := F0 m pc ls rest) rfl (by rw [hb]; exact d0) (Nat.le_refl _) (Nat.le_refl _)
  generalize hT1 : (T.setVm vm₁).pushCell { cls := cX, slots := kX.instanceTypes.map defaultValue, vm := .none } = T1 at X₁ st1
  have hcat : (Value.ref T.heap.size).category = 1 := rfl
  have hcellA : T1.heap[T.heap.size]? = some (freshCell cX kX) := by rw [← hT1]; exact State.heap_pushCell_size _ _
  have d3' : decode c.code (pc + 3) = .ok (.dup, 1) := by rw [hb]; exact d3
  have d4' : decode c.code (pc + 4) = .ok (.ldc is, 2) := by rw [hb]; exact d4
  have hstr' : vk_R own is text sa s' := vk_R.warm hW0 hstr
  obtain ⟨U, hsteps, hrun, hend, hW, hsame, ce, hce, hO⟩ := X₁.ctorThrowS hexec htr (own := own) (cls := cls) (names := names) (ic := ic) hown' hcls hnames h (fun x hx => nomatch hx) hfX hkX hcellA (by rw [hhp, hT]; exact Nat.le_refl _) (msg := .ref sa) rfl
    (g := { method := m, pc := pc + 6, locals := ls, stack := .ref sa :: .ref T.heap.size :: .ref T.heap.size :: rest, locked := none }) rfl hsize rfl rfl (rest := rest) rfl
    (by rw [hb]; exact d6) (by rw [hb]; exact d9) hout hRframes (by simp only [List.map_cons, List.sum_cons, hcat]; omega) hlocks
  obtain ⟨f1, f2⟩ := vx_frame hsame
  rw [hhp] at f1 f2
  have hWs : s.WarmedH U.vm := State.WarmedH.trans hW0 hW
  have hcl : s.vm.findClass cls = some ce.cls := by
    have h9 := hO.cls
    rw [hvm] at h9
    exact h9
  have hall : s.sameButNew ({ U with vm := s.vm } : State) locs mc ms := by
    subst hA
    obtain ⟨e1, e2⟩ := hsame
    rw [State.setFrames_setFrames] at e1
    have h2 : (T.setVm s.vm).sameButNew ({ U with vm := s.vm } : State) [] (0 + 1) (0 + 6) := ⟨e1, e2⟩
    have h3 := X.same.trans h2
    rw [List.append_nil] at h3
    exact h3.mono hc hs
  refine ⟨U, ?_, .threw T.heap.size, hrun, hend, Or.inr ⟨T.heap.size, rfl, cls, ce, locs, hx U hWs.alike f1 (fun q hq => f2 q hq (fun z hz => nomatch hz)), hce, hO.vm, hcl, hWs, hall, hf⟩⟩
  refine st1 _ ?_
  show Steps p.tables e below (T1.setTop { method := m, pc := pc + 3, locals := ls, stack := .ref T.heap.size :: rest, locked := none }) _
  jvm_step X₁.here [X₁.here.top, hexec, d3', Value.category]
  exact X₁.ldcString hexec (own := own) (text := text) (index := is) (a := sa) hown' hstr'.1 hstr'.2
    (g := { method := m, pc := pc + 4, locals := ls, stack := .ref T.heap.size :: .ref T.heap.size :: rest, locked := none }) rfl d4' _ hsteps
/-- 'throw new E("text")', the text by a wide index -/
theorem vx_throwSW {cc : ByteArray} {pc : Nat} (hexec : p.tables.exec = Jvm.exec) (hb : c.code = cc) (hl : l.stackTraces = false) {own cls text : String} {names : List String} {ik is ic mc ms sa : Nat} {A : Nat → Prop}
    (hown : s.vm.findClass own = some m.cls) (hcls : Bundle.fit cls = true) (hnames : ∀ n ∈ names, Bundle.fit n = true)
    (hk : (Cond.classLink own ik cls).before args s = true) (hini : (Cond.initialized cls).before args s = true) (hstr : vk_R own is text sa s) (hat : ∀ w ∈ vx_atS own ic cls names, w.before args s = true)
    (hgood : ∀ w ∈ Cond.classLink own ik cls :: Cond.initialized cls :: vx_atS own ic cls names, vx_ot w = true)
    (hU : vx_Zq Bundle.tN "UNASSIGNED_STACK" Bundle.steD A s s.heap) (hN : vx_Zq Bundle.tN "SUPPRESSED_SENTINEL" Bundle.listD A s s.heap) (hS : va_S A s.heap H locs) (hsize : ls.size = c.maxLocals)
    (d0 : decode cc pc = .ok (.new ik, 3)) (d3 : decode cc (pc + 3) = .ok (.dup, 1)) (d4 : decode cc (pc + 4) = .ok (.ldc_w is, 3)) (d7 : decode cc (pc + 7) = .ok (.invokespecial ic, 3)) (d10 : decode cc (pc + 10) = .ok (.athrow, 1))
    (hout : ∀ x ∈ c.exceptionTable.toList, covers x (pc + 10) = false)
    (hRframes : names.length + 3 < R.frames) (hRlocals : (rest.map fun v => v.category).sum + (13 * (names.length + 1) + 43) ≤ R.locals) (hRcells : cells + 1 ≤ R.cells) (hRslots : slots + 6 ≤ R.slots) (hlocks : meth.locks = false)
    (hx : ∀ t : State, s.vm.Alike t.vm → H.size ≤ t.heap.size → (∀ q : Nat, q < H.size → t.heap[q]? = H[q]?) → XC cls s t)
    (hf : ∀ z ∈ locs, free z.base) (hc : cells + 1 ≤ mc) (hs : slots + 6 ≤ ms) :
    W p l e R s m args below meth c H locs cells slots (vx_MQ below Qc XC args s mc ms free) (F0 m pc ls rest) := by
  intro T hT X
  have htr : e.platform.stackTraces = false := (show e.platform.stackTraces = l.stackTraces by rw [X.admits.platform]).trans hl
  have Y := vx_rebase X (R' := { frames := R.frames, locals := R.locals, cells := 1, slots := 6 }) (Nat.le_refl _) (Nat.le_refl _) hRcells hRslots
  obtain ⟨s', hA⟩ : ∃ z, z = (T.setVm s.vm).setFrames (.invoking m args :: below) := ⟨_, rfl⟩
  rw [← hA] at Y
  have hvm : s'.vm = s.vm := by rw [hA]; rfl
  have hhp : s'.heap = H := by rw [hA]; exact hT
  have hW0 : s.WarmedH s'.vm := by rw [hvm]; exact State.WarmedH.refl s
  have hat' : ∀ w ∈ vx_atS own ic cls names, w.before args s' = true := fun w hw => vx_ot_at hW0 hvm.symm (hgood w (List.mem_cons_of_mem _ (List.mem_cons_of_mem _ hw))) (hat w hw)
  have hk' : (Cond.classLink own ik cls).before args s' = true := vx_ot_at hW0 hvm.symm (hgood _ List.mem_cons_self) hk
  have hini' : (Cond.initialized cls).before args s' = true := vx_ot_at hW0 hvm.symm (hgood _ (List.mem_cons_of_mem _ List.mem_cons_self)) hini
  have hU' : vx_Zq Bundle.tN "UNASSIGNED_STACK" Bundle.steD A s' s'.heap := by rw [hhp]; exact vx_Zq.moved hW0.alike (hU.kept hS.2.1)
  have hN' : vx_Zq Bundle.tN "SUPPRESSED_SENTINEL" Bundle.listD A s' s'.heap := by rw [hhp]; exact vx_Zq.moved hW0.alike (hN.kept hS.2.1)
  have h : ∀ w ∈ Bundle.ownAtoms own ic cls names, w.before args s' = true := vx_own hat' (vx_isRefq hU'.1) (vx_isRefq hN'.1) hU'.2.word hN'.2.word
  have hown' : s'.vm.findClass own = some m.cls := by rw [hvm]; exact hown
  have hins : (Cond.instantiable cls 6).before args s' = true := h _ (by simp [Bundle.ownAtoms])
  obtain ⟨vm₁, cX, kX, hfX, hkX, -, -, X₁, st1⟩ := Y.newCold hexec (own := own) (C := cls) (index := ik) (n := 6) hown' hk' hins hini'
    (g := F0 m pc ls rest) rfl (by rw [hb]; exact d0) (Nat.le_refl _) (Nat.le_refl _)
  generalize hT1 : (T.setVm vm₁).pushCell { cls := cX, slots := kX.instanceTypes.map defaultValue, vm := .none } = T1 at X₁ st1
  have hcat : (Value.ref T.heap.size).category = 1 := rfl
  have hcellA : T1.heap[T.heap.size]? = some (freshCell cX kX) := by rw [← hT1]; exact State.heap_pushCell_size _ _
  have d3' : decode c.code (pc + 3) = .ok (.dup, 1) := by rw [hb]; exact d3
  have d4' : decode c.code (pc + 4) = .ok (.ldc_w is, 3) := by rw [hb]; exact d4
  have hstr' : vk_R own is text sa s' := vk_R.warm hW0 hstr
  obtain ⟨U, hsteps, hrun, hend, hW, hsame, ce, hce, hO⟩ := X₁.ctorThrowS hexec htr (own := own) (cls := cls) (names := names) (ic := ic) hown' hcls hnames h (fun x hx => nomatch hx) hfX hkX hcellA (by rw [hhp, hT]; exact Nat.le_refl _) (msg := .ref sa) rfl
    (g := { method := m, pc := pc + 7, locals := ls, stack := .ref sa :: .ref T.heap.size :: .ref T.heap.size :: rest, locked := none }) rfl hsize rfl rfl (rest := rest) rfl
    (by rw [hb]; exact d7) (by rw [hb]; exact d10) hout hRframes (by simp only [List.map_cons, List.sum_cons, hcat]; omega) hlocks
  obtain ⟨f1, f2⟩ := vx_frame hsame
  rw [hhp] at f1 f2
  have hWs : s.WarmedH U.vm := State.WarmedH.trans hW0 hW
  have hcl : s.vm.findClass cls = some ce.cls := by
    have h9 := hO.cls
    rw [hvm] at h9
    exact h9
  have hall : s.sameButNew ({ U with vm := s.vm } : State) locs mc ms := by
    subst hA
    obtain ⟨e1, e2⟩ := hsame
    rw [State.setFrames_setFrames] at e1
    have h2 : (T.setVm s.vm).sameButNew ({ U with vm := s.vm } : State) [] (0 + 1) (0 + 6) := ⟨e1, e2⟩
    have h3 := X.same.trans h2
    rw [List.append_nil] at h3
    exact h3.mono hc hs
  refine ⟨U, ?_, .threw T.heap.size, hrun, hend, Or.inr ⟨T.heap.size, rfl, cls, ce, locs, hx U hWs.alike f1 (fun q hq => f2 q hq (fun z hz => nomatch hz)), hce, hO.vm, hcl, hWs, hall, hf⟩⟩
  refine st1 _ ?_
  show Steps p.tables e below (T1.setTop { method := m, pc := pc + 3, locals := ls, stack := .ref T.heap.size :: rest, locked := none }) _
  jvm_step X₁.here [X₁.here.top, hexec, d3', Value.category]
  exact X₁.ldcStringW hexec (own := own) (text := text) (index := is) (a := sa) hown' hstr'.1 hstr'.2
    (g := { method := m, pc := pc + 4, locals := ls, stack := .ref T.heap.size :: .ref T.heap.size :: rest, locked := none }) rfl d4' _ hsteps
end Ends
section Bodies
variable {l : Launch}
theorem vx_ofW {y : MethodName} {ws ws' : List Cond} {rm : Room} {Pc : Array Value → State → Prop} {Qc : Array Value → State → Outcome → State → Prop} {XC : String → State → State → Prop} {mc ms : Nat} {free : Addr → Prop} {cc : ByteArray} {maxL : Nat} {ret : Option FieldType}
    (hy : plainName y.cls = true) (hw : ws = Cond.code y cc maxL ret :: ws')
    (body : ∀ p e s m args below meth c s₁, BodyLoose p l y (headSpec ws rm) cc maxL ret e s m args below meth c s₁ → c.maxLocals = maxL → (∀ x ∈ c.exceptionTable.toList, False) → Pc args s →
      W p l e (headSpec ws rm).room s m args below meth c s.heap [] 0 0 (vx_MQ below Qc XC args s mc ms free) (entryFrame m args maxL)) : vx_Met l y ws rm Pc Qc XC mc ms free := by
  refine MetFree.of_bodyS (code := cc) (maxLocals := maxL) (ret := ret) hy ?_ ?_
  · intro args s m h hn
    obtain ⟨meth, c, h1, h2, h3, h4, h5, h6, -, -⟩ := Cond.code_spec hn (atoms_spec (ws := ws) h _ (by rw [hw]; exact List.mem_cons_self))
    exact ⟨meth, c, h1, h2, h3, h4, h5, h6⟩
  · intro p e s m args below meth c s₁ B hml hP _
    have hh0 : s₁.heap = s.heap := by rw [B.state]; rfl
    have ht : ∀ x ∈ c.exceptionTable.toList, False := by
      obtain ⟨meth9, c9, h1, h2, -, -, -, -, h7, -⟩ := Cond.code_spec B.named (atoms_spec (ws := ws) B.pre _ (by rw [hw]; exact List.mem_cons_self))
      cases Option.some.inj (h1.symm.trans B.method)
      cases Option.some.inj (h2.symm.trans (Stand.of_body B).code)
      intro x hx
      rw [Array.isEmpty_iff.mp h7] at hx
      cases hx
    obtain ⟨t, a1, o, b1, b2, b3⟩ := body p e s m args below meth c s₁ B hml ht hP s₁ hh0 (Stand.of_body B)
    exact ⟨t, o, a1, b1, b2, b3⟩
/-- the table of a body with handlers -/
theorem vx_table {p : Program} {x y : MethodName} {S : Spec} {cc bytes : ByteArray} {maxL maxL' : Nat} {ret ret' : Option FieldType} {e : Env} {s s₁ : State} {m : MethodId} {args : Array Value} {below : List Frame} {meth : Method} {c : Code} {hh : List (Nat × Nat × Nat × Nat)}
    (B : BodyLoose p l y S cc maxL ret e s m args below meth c s₁) (h : (Cond.codeWith y bytes maxL' ret' hh).before args s = true) : c.exceptionTable.toList = tableOf hh := by
  obtain ⟨m9, meth9, c9, hn9, h1, h2, -, -, h6, -⟩ := Cond.codeWith_spec h
  cases Option.some.inj (hn9.symm.trans B.named)
  cases Option.some.inj (h1.symm.trans B.method)
  cases Option.some.inj (h2.symm.trans (Stand.of_body B).code)
  rw [← h6, table_eq]
end Bodies
end VXA
/-! ===== END ===== -/
/-! ===== BEGIN a static call of a method with an exception table ===== -/
section VXS
variable {p : Program} {l : Launch} {e : Env} {R : Room} {s : State} {m : MethodId} {args : Array Value} {below : List Frame} {meth : Method} {c : Code} {T : State} {H : Heap} {locs : List Loc} {cells slots : Nat}
abbrev vx_CSW (R : Room) (s : State) (args : Array Value) (own : String) (index : Nat) (y : MethodName) (bytes : ByteArray) (maxL : Nat) (ret : Option FieldType) (hh : List (Nat × Nat × Nat × Nat)) (ws : List Cond) (rm : Room) (mc ms n : Nat) : Prop :=
  (rm.cells = mc ∧ rm.slots = ms ∧ rm.frames + 1 ≤ R.frames ∧ 8 + (maxL + 11) + rm.locals ≤ R.locals ∧ (∀ w ∈ ws, ∀ (a' : Array Value) (U : State), s.WarmedH U.vm → w.before a' U = true) ∧ Cond.codeWith y bytes maxL ret hh ∈ ws) ∧
  (Cond.codeWith y bytes maxL ret hh).before args s = true ∧ (Cond.initialized y.cls).before args s = true ∧ (y.cls ≠ "java/lang/invoke/MethodHandle" ∧ y.cls ≠ "java/lang/invoke/VarHandle") ∧
  (∀ sig, parseMethodDescriptor y.desc = some sig → n = sig.parameters.length) ∧ (Cond.methodLink own index y).before args s = true ∧ (Cond.static y).before args s = true
theorem vx_cwSW {own : String} {index maxL mc ms : Nat} {y : MethodName} {bytes : ByteArray} {ret : Option FieldType} {hh : List (Nat × Nat × Nat × Nat)} {Ts ws ws' : List Cond} {rm : Room} (n : Nat) (ht : ∀ w ∈ Ts, w.before args s = true) (hT : GoodIn Ts (va_wsS own index y ws)) (hw : ws = Cond.codeWith y bytes maxL ret hh :: ws') (hrc : rm.cells = mc) (hrs : rm.slots = ms)
    (hd : y.cls ≠ "java/lang/invoke/MethodHandle" ∧ y.cls ≠ "java/lang/invoke/VarHandle" ∧ (parseMethodDescriptor y.desc).map (fun d => d.parameters.length) = some n) (hR : rm.frames + 1 ≤ R.frames ∧ 8 + (maxL + 11) + rm.locals ≤ R.locals) :
    vx_CSW R s args own index y bytes maxL ret hh ws rm mc ms n := by
  have ok : ∀ w ∈ va_wsS own index y ws, w.before args s = true := fun w h => ht w (hT w h).1
  have hG : GoodIn Ts ws := fun w h => hT w (by unfold va_wsS; exact List.mem_append_right _ h)
  have hc : Cond.codeWith y bytes maxL ret hh ∈ ws := by rw [hw]; exact List.mem_cons_self
  refine ⟨⟨hrc, hrs, hR.1, hR.2, pay_in ht hG, hc⟩, ht _ (hG _ hc).1, ok _ (by simp [va_wsS]), ⟨hd.1, hd.2.1⟩, fun sig h => ?_, ok _ (by simp [va_wsS]), ok _ (by simp [va_wsS])⟩
  have h2 := hd.2.2
  rw [h] at h2
  exact (Option.some.inj h2).symm
theorem vx_callSW (X : Stand p l e R s m args below meth c T locs cells slots) (hexec : p.tables.exec = Jvm.exec) {own : String} {index : Nat} {y : MethodName} {bytes : ByteArray} {maxL : Nat} {ret : Option FieldType} {hh : List (Nat × Nat × Nat × Nat)}
    (hown : s.vm.findClass own = some m.cls) (hlink : (Cond.methodLink own index y).before args s = true) (hstat : (Cond.static y).before args s = true) (hinit : (Cond.initialized y.cls).before args s = true)
    (hcode : (Cond.codeWith y bytes maxL ret hh).before args s = true) (hy : y.cls ≠ "java/lang/invoke/MethodHandle" ∧ y.cls ≠ "java/lang/invoke/VarHandle")
    {W9 : Nat} {Pre : Pt → Array Value → Prop} {Post : Pt → Array Value → Option Value → Pt → Prop} (hK : Back l R p e below s args y 3 W9 Pre Post)
    {g : JFrame} (hg : g.method = m) (hsize : g.locals.size = c.maxLocals) {argsL rest : List Value} (hlen : ∀ sig, parseMethodDescriptor y.desc = some sig → argsL.length = sig.parameters.length)
    (hstack : g.stack = argsL.reverse ++ rest) (hW : 2 * g.monitorRoom + (rest.map fun v => v.category).sum ≤ W9) (hdg : decode c.code g.pc = .ok (.invokestatic index, 3))
    (hpre : ∀ vm₁, s.WarmedH vm₁ → Pre ⟨T.setVm vm₁, locs, cells, slots⟩ argsL.toArray) :
    ∃ (v : Option Value) (vm₁ : Vm) (B : Pt), s.WarmedH vm₁ ∧ Stand p l e R s m args below meth c B.U B.locs B.cells B.slots ∧ Post ⟨T.setVm vm₁, locs, cells, slots⟩ argsL.toArray v B ∧
      ∀ target, Steps p.tables e below (B.U.setTop { g with pc := g.pc + 3, stack := v.toList ++ rest }) target → Steps p.tables e below (T.setTop g) target := by
  obtain ⟨mk, methM, cM, hnamed, hmethM, -, -, -, -, -, -, hsigM⟩ := Cond.codeWith_spec hcode
  have hstatic : methM.isStatic = true := Cond.static_spec hnamed hmethM hstat
  obtain ⟨kP, hkP, -⟩ := className_of_methodNamed hnamed
  have hinitP : kP.init = .initialized := Cond.initialized_spec (findClass_of_methodNamed hnamed) hkP hinit
  obtain ⟨vm₁, X₁, hstep₁⟩ := X.invokestatic hexec hown hlink hnamed hmethM hstatic hkP hinitP hy (g := g) hg (argsL := argsL) (rest := rest) (hlen _ hsigM) hstack hdg
  obtain ⟨v, B, X', hpost, hsteps⟩ := hK m meth c ⟨T.setVm vm₁, locs, cells, slots⟩ { g with stack := rest } (.invokestatic index) mk argsL.toArray X₁ hg hsize hdg hW (X₁.named hnamed) (hpre vm₁ X₁.warmed)
  exact ⟨v, vm₁, B, X₁.warmed, X', hpost, fun target h => hstep₁ _ fun acts => by rw [doInvoke_state]; exact hsteps.trans h⟩
theorem vx_runSW {y : MethodName} {bytes cc : ByteArray} {maxL nL mc ms n index : Nat} {ret : Option FieldType} {hh : List (Nat × Nat × Nat × Nat)} {ws : List Cond} {rm : Room} {Pc : Array Value → State → Prop} {Qc : Array Value → State → Outcome → State → Prop} {free : Addr → Prop} {Ts : List Cond} {own : String} {As rest : List Value} {g : JFrame}
    (S : CallFix p m c cc nL s args Ts own) (hM : Met l y ws rm Pc Qc mc ms free) (cw : vx_CSW R s args own index y bytes maxL ret hh ws rm mc ms n) (hp : PreS s H Pc As)
    (hg : g.method = m) (hn : As.length = n) (hsize : g.locals.size = nL) (hstack : g.stack = As.reverse ++ rest) (hW : 2 * g.monitorRoom + (rest.map fun v => v.category).sum ≤ 8) (hdg : decode cc g.pc = .ok (.invokestatic index, 3)) (hf : cells + mc ≤ R.cells ∧ slots + ms ≤ R.slots) :
    va_Run p l e R s m args below meth c H locs cells slots mc ms g rest (Qc As.toArray) (free) := by
  obtain ⟨⟨hrc, hrs, hfr, hlo, hws, hcw⟩, hcode, hini, hy, hlen, hl, hstt⟩ := cw
  have hK : Back l R p e below s args y 3 8 (PreOf R mc ms Pc) (PostOf Qc mc ms free) := va_backW (hh := hh) (bytes := bytes) (maxL := maxL) (ret := ret) hM hp.1 hrc hrs hfr hlo hws hcw (fun a' U hW => word_at hW (Or.inl (by first | rfl | simp [Cond.onTables, Cond.keeps, Cond.steady])) hini)
  obtain ⟨hx, hb, hml, ho, -⟩ := S
  intro T hT X
  obtain ⟨v, vm₁, ⟨U', l2, c2, s2⟩, hW₁, X', ⟨g', mk, t, L, e1, e2, hq, h1, hL, h2, h3⟩, st⟩ := vx_callSW X hx (hh := hh) (bytes := bytes) (maxL := maxL) (ret := ret) ho hl hstt hini hcode hy hK hg (hsize.trans hml.symm) (argsL := As) (rest := rest) (fun sig h => hn.trans (hlen sig h)) hstack hW (by rw [hb]; exact hdg)
    (fun vm₁ hW₁ => ⟨hf.1, hf.2, hp.2 (T.setVm vm₁) hT hW₁⟩)
  dsimp only [Pt.U, Pt.locs, Pt.cells, Pt.slots] at X' e1 e2 h1 h2 h3 st
  subst h1; subst h2; subst h3
  exact ⟨v, (T.setVm vm₁).calling g' mk As.toArray, t, U', L, hT, X', hL, e1, e2, hq, st⟩
end VXS
/-! ===== END ===== -/
end
section
def RX0 : String := "VoiceFrames$Decoder"
def TX0 : u_T := fun k => match k with
  | 0 => ("VoiceFrames$Decoder", "filter", "LVoiceFrames$Filter;", true)
  | 1 => ("VoiceFrames$Decoder", "past", "LVoiceFrames$Past;", true)
  | 2 => ("VoiceFrames$Decoder", "pulses", "LVoiceFrames$Pulses;", true)
  | 3 => ("VoiceFrames$Decoder", "v", "[I", true)
  | 4 => ("VoiceFrames$Decoder", "back", "I", false)
  | 5 => ("VoiceFrames$Decoder", "echo", "I", false)
  | _ => ("VoiceFrames$Decoder", "frames", "I", false)
def tyX0 : Nat → FieldType := fun k => match k with
  | 0 => .object "VoiceFrames$Filter"
  | 1 => .object "VoiceFrames$Past"
  | 2 => .object "VoiceFrames$Pulses"
  | 3 => .array .int
  | 4 => .int
  | 5 => .int
  | _ => .int
abbrev wsX00 : List Cond := u_ws RX0 TX0 7
theorem nmX0 : ∀ a, a < 7 → ∀ b, b < 7 → a ≠ b → (TX0 a).2.1 ≠ (TX0 b).2.1 := by decide +kernel
theorem tyX0_ok : ∀ k, k < 7 → parseFieldDescriptor (TX0 k).2.2.1 = some (tyX0 k) := by decide +kernel
abbrev cX0_init : ByteArray := prog_2_method_1_code
def yX0_init : MethodName := ⟨RX0, "<init>", "()V"⟩
abbrev cX0_speak : ByteArray := prog_2_method_2_code
def yX0_speak : MethodName := ⟨RX0, "speak", "([I[I)V"⟩
abbrev cX0_forget : ByteArray := prog_2_method_3_code
def yX0_forget : MethodName := ⟨RX0, "forget", "()V"⟩
abbrev cX0_rebuildPart : ByteArray := prog_2_method_4_code
def yX0_rebuildPart : MethodName := ⟨RX0, "rebuildPart", "(I[I)V"⟩
abbrev cX0_giveBack : ByteArray := prog_2_method_5_code
def yX0_giveBack : MethodName := ⟨RX0, "giveBack", "([I)V"⟩
abbrev cX0_spoken : ByteArray := prog_2_method_6_code
def yX0_spoken : MethodName := ⟨RX0, "spoken", "(I)I"⟩
def RX1 : String := "VoiceFrames$Encoder"
def TX1 : u_T := fun k => match k with
  | 0 => ("VoiceFrames$Encoder", "inlet", "LVoiceFrames$Inlet;", true)
  | 1 => ("VoiceFrames$Encoder", "prediction", "LVoiceFrames$Prediction;", true)
  | 2 => ("VoiceFrames$Encoder", "filter", "LVoiceFrames$Filter;", true)
  | 3 => ("VoiceFrames$Encoder", "past", "LVoiceFrames$Past;", true)
  | 4 => ("VoiceFrames$Encoder", "search", "LVoiceFrames$Search;", true)
  | 5 => ("VoiceFrames$Encoder", "thinning", "LVoiceFrames$Thinning;", true)
  | 6 => ("VoiceFrames$Encoder", "pulses", "LVoiceFrames$Pulses;", true)
  | 7 => ("VoiceFrames$Encoder", "x", "[I", true)
  | 8 => ("VoiceFrames$Encoder", "u", "[I", true)
  | _ => ("VoiceFrames$Encoder", "frames", "I", false)
def tyX1 : Nat → FieldType := fun k => match k with
  | 0 => .object "VoiceFrames$Inlet"
  | 1 => .object "VoiceFrames$Prediction"
  | 2 => .object "VoiceFrames$Filter"
  | 3 => .object "VoiceFrames$Past"
  | 4 => .object "VoiceFrames$Search"
  | 5 => .object "VoiceFrames$Thinning"
  | 6 => .object "VoiceFrames$Pulses"
  | 7 => .array .int
  | 8 => .array .int
  | _ => .int
abbrev wsX10 : List Cond := u_ws RX1 TX1 10
theorem nmX1 : ∀ a, a < 10 → ∀ b, b < 10 → a ≠ b → (TX1 a).2.1 ≠ (TX1 b).2.1 := by decide +kernel
theorem tyX1_ok : ∀ k, k < 10 → parseFieldDescriptor (TX1 k).2.2.1 = some (tyX1 k) := by decide +kernel
abbrev cX1_init : ByteArray := prog_3_method_1_code
def yX1_init : MethodName := ⟨RX1, "<init>", "()V"⟩
abbrev cX1_describe : ByteArray := prog_3_method_2_code
def yX1_describe : MethodName := ⟨RX1, "describe", "([I[I)V"⟩
abbrev cX1_forget : ByteArray := prog_3_method_3_code
def yX1_forget : MethodName := ⟨RX1, "forget", "()V"⟩
abbrev cX1_takeAway : ByteArray := prog_3_method_4_code
def yX1_takeAway : MethodName := ⟨RX1, "takeAway", "()V"⟩
abbrev cX1_left : ByteArray := prog_3_method_5_code
def yX1_left : MethodName := ⟨RX1, "left", "(I)I"⟩
abbrev cX1_describePart : ByteArray := prog_3_method_6_code
def yX1_describePart : MethodName := ⟨RX1, "describePart", "(I[I)V"⟩
def RX2 : String := "VoiceFrames$Filter"
def TX2 : u_T := fun k => match k with
  | 0 => ("VoiceFrames$Filter", "g", "[I", true)
  | 1 => ("VoiceFrames$Filter", "before", "[I", true)
  | _ => ("VoiceFrames$Filter", "\x72", "[I", true)
def tyX2 : Nat → FieldType := fun k => match k with
  | 0 => .array .int
  | 1 => .array .int
  | _ => .array .int
abbrev wsX20 : List Cond := u_ws RX2 TX2 3
theorem nmX2 : ∀ a, a < 3 → ∀ b, b < 3 → a ≠ b → (TX2 a).2.1 ≠ (TX2 b).2.1 := by decide +kernel
theorem tyX2_ok : ∀ k, k < 3 → parseFieldDescriptor (TX2 k).2.2.1 = some (tyX2 k) := by decide +kernel
abbrev cX2_init : ByteArray := prog_4_method_1_code
def yX2_init : MethodName := ⟨RX2, "<init>", "()V"⟩
abbrev cX2_learn : ByteArray := prog_4_method_2_code
def yX2_learn : MethodName := ⟨RX2, "learn", "([I)V"⟩
abbrev cX2_shape : ByteArray := prog_4_method_3_code
def yX2_shape : MethodName := ⟨RX2, "shape", "(I)V"⟩
abbrev cX2_forget : ByteArray := prog_4_method_4_code
def yX2_forget : MethodName := ⟨RX2, "forget", "()V"⟩
abbrev cX2_between : ByteArray := prog_4_method_5_code
def yX2_between : MethodName := ⟨RX2, "between", "(III)I"⟩
abbrev cX2_straight : ByteArray := prog_4_method_6_code
def yX2_straight : MethodName := ⟨RX2, "straight", "(I)I"⟩
def RX3 : String := "VoiceFrames$Inlet"
def TX3 : u_T := fun k => match k with
  | 0 => ("VoiceFrames$Inlet", "last", "I", false)
  | 1 => ("VoiceFrames$Inlet", "level", "I", false)
  | _ => ("VoiceFrames$Inlet", "echo", "I", false)
def tyX3 : Nat → FieldType := fun k => match k with
  | 0 => .int
  | 1 => .int
  | _ => .int
abbrev wsX30 : List Cond := u_ws RX3 TX3 3
theorem nmX3 : ∀ a, a < 3 → ∀ b, b < 3 → a ≠ b → (TX3 a).2.1 ≠ (TX3 b).2.1 := by decide +kernel
theorem tyX3_ok : ∀ k, k < 3 → parseFieldDescriptor (TX3 k).2.2.1 = some (tyX3 k) := by decide +kernel
abbrev cX3_init : ByteArray := prog_5_method_1_code
def yX3_init : MethodName := ⟨RX3, "<init>", "()V"⟩
abbrev cX3_smooth : ByteArray := prog_5_method_2_code
def yX3_smooth : MethodName := ⟨RX3, "smooth", "([I[I)V"⟩
abbrev cX3_goingOn : ByteArray := prog_5_method_3_code
def yX3_goingOn : MethodName := ⟨RX3, "goingOn", "(I)I"⟩
abbrev cX3_forget : ByteArray := prog_5_method_4_code
def yX3_forget : MethodName := ⟨RX3, "forget", "()V"⟩
abbrev cX3_next : ByteArray := prog_5_method_5_code
def yX3_next : MethodName := ⟨RX3, "next", "(I)I"⟩
abbrev cX3_nearestInt : ByteArray := prog_5_method_6_code
def yX3_nearestInt : MethodName := ⟨RX3, "nearestInt", "(J)I"⟩
def RX4 : String := "VoiceFrames$Numbers"
def TX4 : u_T := fun k => match k with
  | _ => ("", "", "", false)
def tyX4 : Nat → FieldType := fun k => match k with
  | _ => .int
abbrev wsX40 : List Cond := u_ws RX4 TX4 0
theorem nmX4 : ∀ a, a < 0 → ∀ b, b < 0 → a ≠ b → (TX4 a).2.1 ≠ (TX4 b).2.1 := by decide +kernel
theorem tyX4_ok : ∀ k, k < 0 → parseFieldDescriptor (TX4 k).2.2.1 = some (tyX4 k) := by decide +kernel
abbrev cX4_cut : ByteArray := prog_6_method_2_code
def yX4_cut : MethodName := ⟨RX4, "cut", "(I)I"⟩
abbrev cX4_rounded : ByteArray := prog_6_method_3_code
def yX4_rounded : MethodName := ⟨RX4, "rounded", "(II)I"⟩
abbrev cX4_floored : ByteArray := prog_6_method_4_code
def yX4_floored : MethodName := ⟨RX4, "floored", "(II)I"⟩
abbrev cX4_size : ByteArray := prog_6_method_5_code
def yX4_size : MethodName := ⟨RX4, "size", "(I)I"⟩
abbrev cX4_withSignOf : ByteArray := prog_6_method_6_code
def yX4_withSignOf : MethodName := ⟨RX4, "withSignOf", "(II)I"⟩
abbrev cX4_norm : ByteArray := prog_6_method_7_code
def yX4_norm : MethodName := ⟨RX4, "norm", "(I)I"⟩
abbrev cX4_greatestSize : ByteArray := prog_6_method_8_code
def yX4_greatestSize : MethodName := ⟨RX4, "greatestSize", "([IIII)I"⟩
def RX5 : String := "VoiceFrames$Past"
def TX5 : u_T := fun k => match k with
  | 0 => ("VoiceFrames$Past", "cells", "[I", true)
  | _ => ("VoiceFrames$Past", "w", "[I", true)
def tyX5 : Nat → FieldType := fun k => match k with
  | 0 => .array .int
  | _ => .array .int
abbrev wsX50 : List Cond := u_ws RX5 TX5 2
theorem nmX5 : ∀ a, a < 2 → ∀ b, b < 2 → a ≠ b → (TX5 a).2.1 ≠ (TX5 b).2.1 := by decide +kernel
theorem tyX5_ok : ∀ k, k < 2 → parseFieldDescriptor (TX5 k).2.2.1 = some (tyX5 k) := by decide +kernel
abbrev cX5_init : ByteArray := prog_7_method_1_code
def yX5_init : MethodName := ⟨RX5, "<init>", "()V"⟩
abbrev cX5_from : ByteArray := prog_7_method_2_code
def yX5_from : MethodName := ⟨RX5, "from", "(I)I"⟩
abbrev cX5_look : ByteArray := prog_7_method_3_code
def yX5_look : MethodName := ⟨RX5, "look", "(III)V"⟩
abbrev cX5_add : ByteArray := prog_7_method_4_code
def yX5_add : MethodName := ⟨RX5, "add", "(I[I)V"⟩
abbrev cX5_endFrame : ByteArray := prog_7_method_5_code
def yX5_endFrame : MethodName := ⟨RX5, "endFrame", "()V"⟩
abbrev cX5_forget : ByteArray := prog_7_method_6_code
def yX5_forget : MethodName := ⟨RX5, "forget", "()V"⟩
def RX6 : String := "VoiceFrames$Prediction"
def TX6 : u_T := fun k => match k with
  | 0 => ("VoiceFrames$Prediction", "y", "[I", true)
  | 1 => ("VoiceFrames$Prediction", "sums", "[I", true)
  | 2 => ("VoiceFrames$Prediction", "p", "[I", true)
  | 3 => ("VoiceFrames$Prediction", "q", "[I", true)
  | _ => ("VoiceFrames$Prediction", "\x72", "[I", true)
def tyX6 : Nat → FieldType := fun k => match k with
  | 0 => .array .int
  | 1 => .array .int
  | 2 => .array .int
  | 3 => .array .int
  | _ => .array .int
abbrev wsX60 : List Cond := u_ws RX6 TX6 5
theorem nmX6 : ∀ a, a < 5 → ∀ b, b < 5 → a ≠ b → (TX6 a).2.1 ≠ (TX6 b).2.1 := by decide +kernel
theorem tyX6_ok : ∀ k, k < 5 → parseFieldDescriptor (TX6 k).2.2.1 = some (tyX6 k) := by decide +kernel
abbrev cX6_init : ByteArray := prog_8_method_1_code
def yX6_init : MethodName := ⟨RX6, "<init>", "()V"⟩
abbrev cX6_predict : ByteArray := prog_8_method_2_code
def yX6_predict : MethodName := ⟨RX6, "predict", "([I[I)V"⟩
abbrev cX6_lower : ByteArray := prog_8_method_3_code
def yX6_lower : MethodName := ⟨RX6, "lower", "([I)V"⟩
abbrev cX6_correlate : ByteArray := prog_8_method_4_code
def yX6_correlate : MethodName := ⟨RX6, "correlate", "()V"⟩
abbrev cX6_reflect : ByteArray := prog_8_method_5_code
def yX6_reflect : MethodName := ⟨RX6, "reflect", "()V"⟩
abbrev cX6_reflection : ByteArray := prog_8_method_6_code
def yX6_reflection : MethodName := ⟨RX6, "reflection", "(II)I"⟩
abbrev cX6_fold : ByteArray := prog_8_method_7_code
def yX6_fold : MethodName := ⟨RX6, "fold", "(II)V"⟩
abbrev cX6_bent : ByteArray := prog_8_method_8_code
def yX6_bent : MethodName := ⟨RX6, "bent", "(I)I"⟩
abbrev cX6_filterNumber : ByteArray := prog_8_method_9_code
def yX6_filterNumber : MethodName := ⟨RX6, "filterNumber", "(II)I"⟩
def RX7 : String := "VoiceFrames$Pulses"
def TX7 : u_T := fun k => match k with
  | 0 => ("VoiceFrames$Pulses", "row", "[I", true)
  | 1 => ("VoiceFrames$Pulses", "shift", "I", false)
  | _ => ("VoiceFrames$Pulses", "step", "I", false)
def tyX7 : Nat → FieldType := fun k => match k with
  | 0 => .array .int
  | 1 => .int
  | _ => .int
abbrev wsX70 : List Cond := u_ws RX7 TX7 3
theorem nmX7 : ∀ a, a < 3 → ∀ b, b < 3 → a ≠ b → (TX7 a).2.1 ≠ (TX7 b).2.1 := by decide +kernel
theorem tyX7_ok : ∀ k, k < 3 → parseFieldDescriptor (TX7 k).2.2.1 = some (tyX7 k) := by decide +kernel
abbrev cX7_init : ByteArray := prog_9_method_1_code
def yX7_init : MethodName := ⟨RX7, "<init>", "()V"⟩
abbrev cX7_scaleBy : ByteArray := prog_9_method_2_code
def yX7_scaleBy : MethodName := ⟨RX7, "scaleBy", "(I)V"⟩
abbrev cX7_told : ByteArray := prog_9_method_3_code
def yX7_told : MethodName := ⟨RX7, "told", "(I)I"⟩
abbrev cX7_makeAgain : ByteArray := prog_9_method_4_code
def yX7_makeAgain : MethodName := ⟨RX7, "makeAgain", "([II)V"⟩
abbrev cX7_made : ByteArray := prog_9_method_5_code
def yX7_made : MethodName := ⟨RX7, "made", "(I)I"⟩
def RX8 : String := "VoiceFrames$Search"
def TX8 : u_T := fun k => match k with
  | 0 => ("VoiceFrames$Search", "low", "[I", true)
  | 1 => ("VoiceFrames$Search", "back", "I", false)
  | _ => ("VoiceFrames$Search", "gain", "I", false)
def tyX8 : Nat → FieldType := fun k => match k with
  | 0 => .array .int
  | 1 => .int
  | _ => .int
abbrev wsX80 : List Cond := u_ws RX8 TX8 3
theorem nmX8 : ∀ a, a < 3 → ∀ b, b < 3 → a ≠ b → (TX8 a).2.1 ≠ (TX8 b).2.1 := by decide +kernel
theorem tyX8_ok : ∀ k, k < 3 → parseFieldDescriptor (TX8 k).2.2.1 = some (tyX8 k) := by decide +kernel
abbrev cX8_init : ByteArray := prog_10_method_1_code
def yX8_init : MethodName := ⟨RX8, "<init>", "()V"⟩
abbrev cX8_find : ByteArray := prog_10_method_2_code
def yX8_find : MethodName := ⟨RX8, "find", "([IILVoiceFrames$Past;)V"⟩
abbrev cX8_lower : ByteArray := prog_10_method_3_code
def yX8_lower : MethodName := ⟨RX8, "lower", "([II)I"⟩
abbrev cX8_likeness : ByteArray := prog_10_method_4_code
def yX8_likeness : MethodName := ⟨RX8, "likeness", "([II)I"⟩
abbrev cX8_power : ByteArray := prog_10_method_5_code
def yX8_power : MethodName := ⟨RX8, "power", "([II)I"⟩
abbrev cX8_gainOf : ByteArray := prog_10_method_6_code
def yX8_gainOf : MethodName := ⟨RX8, "gainOf", "(II)I"⟩
def RX9 : String := "VoiceFrames$Thinning"
def TX9 : u_T := fun k => match k with
  | 0 => ("VoiceFrames$Thinning", "e", "[I", true)
  | 1 => ("VoiceFrames$Thinning", "x", "[I", true)
  | 2 => ("VoiceFrames$Thinning", "grid", "I", false)
  | _ => ("VoiceFrames$Thinning", "height", "I", false)
def tyX9 : Nat → FieldType := fun k => match k with
  | 0 => .array .int
  | 1 => .array .int
  | 2 => .int
  | _ => .int
abbrev wsX90 : List Cond := u_ws RX9 TX9 4
theorem nmX9 : ∀ a, a < 4 → ∀ b, b < 4 → a ≠ b → (TX9 a).2.1 ≠ (TX9 b).2.1 := by decide +kernel
theorem tyX9_ok : ∀ k, k < 4 → parseFieldDescriptor (TX9 k).2.2.1 = some (tyX9 k) := by decide +kernel
abbrev cX9_init : ByteArray := prog_11_method_1_code
def yX9_init : MethodName := ⟨RX9, "<init>", "()V"⟩
abbrev cX9_thin : ByteArray := prog_11_method_2_code
def yX9_thin : MethodName := ⟨RX9, "thin", "([II[I)V"⟩
abbrev cX9_filtered : ByteArray := prog_11_method_3_code
def yX9_filtered : MethodName := ⟨RX9, "filtered", "(I)I"⟩
abbrev cX9_loudestGrid : ByteArray := prog_11_method_4_code
def yX9_loudestGrid : MethodName := ⟨RX9, "loudestGrid", "()I"⟩
abbrev cX9_heightOf : ByteArray := prog_11_method_5_code
def yX9_heightOf : MethodName := ⟨RX9, "heightOf", "(I)I"⟩
def RX10 : String := "VoiceFrames"
def TX10 : u_T := fun k => match k with
  | 0 => ("VoiceFrames", "samples", "[I", true)
  | 1 => ("VoiceFrames", "bytes", "[I", true)
  | 2 => ("VoiceFrames", "parameters", "[I", true)
  | 3 => ("VoiceFrames", "heard", "[I", true)
  | 4 => ("VoiceFrames", "encoder", "LVoiceFrames$Encoder;", true)
  | 5 => ("VoiceFrames", "decoder", "LVoiceFrames$Decoder;", true)
  | 6 => ("VoiceFrames", "sampleCount", "I", false)
  | _ => ("VoiceFrames", "byteCount", "I", false)
def tyX10 : Nat → FieldType := fun k => match k with
  | 0 => .array .int
  | 1 => .array .int
  | 2 => .array .int
  | 3 => .array .int
  | 4 => .object "VoiceFrames$Encoder"
  | 5 => .object "VoiceFrames$Decoder"
  | 6 => .int
  | _ => .int
abbrev wsX100 : List Cond := u_ws RX10 TX10 8
theorem nmX10 : ∀ a, a < 8 → ∀ b, b < 8 → a ≠ b → (TX10 a).2.1 ≠ (TX10 b).2.1 := by decide +kernel
theorem tyX10_ok : ∀ k, k < 8 → parseFieldDescriptor (TX10 k).2.2.1 = some (tyX10 k) := by decide +kernel
abbrev cX10_init : ByteArray := prog_1_method_1_code
def yX10_init : MethodName := ⟨RX10, "<init>", "()V"⟩
abbrev cX10_put : ByteArray := prog_1_method_2_code
def yX10_put : MethodName := ⟨RX10, "put", "(I)I"⟩
abbrev cX10_fill : ByteArray := prog_1_method_3_code
def yX10_fill : MethodName := ⟨RX10, "fill", "(III)I"⟩
abbrev cX10_encode : ByteArray := prog_1_method_4_code
def yX10_encode : MethodName := ⟨RX10, "encode", "()I"⟩
abbrev cX10_parameter : ByteArray := prog_1_method_5_code
def yX10_parameter : MethodName := ⟨RX10, "parameter", "(I)I"⟩
abbrev cX10_feed : ByteArray := prog_1_method_6_code
def yX10_feed : MethodName := ⟨RX10, "feed", "(JI)I"⟩
abbrev cX10_take : ByteArray := prog_1_method_7_code
def yX10_take : MethodName := ⟨RX10, "take", "()I"⟩
abbrev cX10_decode : ByteArray := prog_1_method_8_code
def yX10_decode : MethodName := ⟨RX10, "decode", "()I"⟩
abbrev cX10_hand : ByteArray := prog_1_method_9_code
def yX10_hand : MethodName := ⟨RX10, "hand", "(I)I"⟩
abbrev cX10_sample : ByteArray := prog_1_method_10_code
def yX10_sample : MethodName := ⟨RX10, "sample", "(I)I"⟩
abbrev cX10_reset : ByteArray := prog_1_method_11_code
def yX10_reset : MethodName := ⟨RX10, "reset", "(I)V"⟩
abbrev cX10_state : ByteArray := prog_1_method_12_code
def yX10_state : MethodName := ⟨RX10, "state", "(II)I"⟩
abbrev cX10_about : ByteArray := prog_1_method_13_code
def yX10_about : MethodName := ⟨RX10, "about", "(I)I"⟩
abbrev cX10_stateCells : ByteArray := prog_1_method_14_code
def yX10_stateCells : MethodName := ⟨RX10, "stateCells", "(I)I"⟩
abbrev cX10_bitsOf : ByteArray := prog_1_method_15_code
def yX10_bitsOf : MethodName := ⟨RX10, "bitsOf", "(I)I"⟩
abbrev cX10_pack : ByteArray := prog_1_method_16_code
def yX10_pack : MethodName := ⟨RX10, "pack", "()V"⟩
abbrev cX10_unpack : ByteArray := prog_1_method_17_code
def yX10_unpack : MethodName := ⟨RX10, "unpack", "()V"⟩
def RX11 : String := "VoiceFramesModel"
def TX11 : u_T := fun k => match k with
  | 0 => ("VoiceFramesModel", "code", "I", false)
  | 1 => ("VoiceFramesModel", "count", "I", false)
  | 2 => ("VoiceFramesModel", "samples", "[J", true)
  | 3 => ("VoiceFramesModel", "atHand", "I", false)
  | 4 => ("VoiceFramesModel", "hand", "[I", true)
  | 5 => ("VoiceFramesModel", "parameters", "[I", true)
  | 6 => ("VoiceFramesModel", "out", "[I", true)
  | 7 => ("VoiceFramesModel", "encoded", "I", false)
  | 8 => ("VoiceFramesModel", "decoded", "I", false)
  | 9 => ("VoiceFramesModel", "z", "J", false)
  | 10 => ("VoiceFramesModel", "w", "J", false)
  | 11 => ("VoiceFramesModel", "m", "J", false)
  | 12 => ("VoiceFramesModel", "lastG", "[J", true)
  | 13 => ("VoiceFramesModel", "u", "[J", true)
  | 14 => ("VoiceFramesModel", "v", "[J", true)
  | 15 => ("VoiceFramesModel", "past", "[J", true)
  | 16 => ("VoiceFramesModel", "back", "I", false)
  | 17 => ("VoiceFramesModel", "last", "J", false)
  | 18 => ("VoiceFramesModel", "x", "[J", true)
  | 19 => ("VoiceFramesModel", "left", "[J", true)
  | 20 => ("VoiceFramesModel", "e", "[J", true)
  | 21 => ("VoiceFramesModel", "filtered", "[J", true)
  | 22 => ("VoiceFramesModel", "k", "[J", true)
  | 23 => ("VoiceFramesModel", "p", "[J", true)
  | 24 => ("VoiceFramesModel", "q", "[J", true)
  | 25 => ("VoiceFramesModel", "\x72", "[J", true)
  | 26 => ("VoiceFramesModel", "g", "[J", true)
  | 27 => ("VoiceFramesModel", "made", "[J", true)
  | 28 => ("VoiceFramesModel", "height", "I", false)
  | _ => ("VoiceFramesModel", "fine", "I", false)
def tyX11 : Nat → FieldType := fun k => match k with
  | 0 => .int
  | 1 => .int
  | 2 => .array .long
  | 3 => .int
  | 4 => .array .int
  | 5 => .array .int
  | 6 => .array .int
  | 7 => .int
  | 8 => .int
  | 9 => .long
  | 10 => .long
  | 11 => .long
  | 12 => .array .long
  | 13 => .array .long
  | 14 => .array .long
  | 15 => .array .long
  | 16 => .int
  | 17 => .long
  | 18 => .array .long
  | 19 => .array .long
  | 20 => .array .long
  | 21 => .array .long
  | 22 => .array .long
  | 23 => .array .long
  | 24 => .array .long
  | 25 => .array .long
  | 26 => .array .long
  | 27 => .array .long
  | 28 => .int
  | _ => .int
abbrev wsX110 : List Cond := u_ws RX11 TX11 30
theorem nmX11 : ∀ a, a < 30 → ∀ b, b < 30 → a ≠ b → (TX11 a).2.1 ≠ (TX11 b).2.1 := by decide +kernel
theorem tyX11_ok : ∀ k, k < 30 → parseFieldDescriptor (TX11 k).2.2.1 = some (tyX11 k) := by decide +kernel
abbrev cX11_init : ByteArray := prog_13_method_1_code
def yX11_init : MethodName := ⟨RX11, "<init>", "()V"⟩
abbrev cX11_thrown : ByteArray := prog_13_method_2_code
def yX11_thrown : MethodName := ⟨RX11, "thrown", "()I"⟩
abbrev cX11_refuses : ByteArray := prog_13_method_3_code
def yX11_refuses : MethodName := ⟨RX11, "refuses", "(I)Z"⟩
abbrev cX11_cut : ByteArray := prog_13_method_4_code
def yX11_cut : MethodName := ⟨RX11, "cut", "(J)J"⟩
abbrev cX11_wide : ByteArray := prog_13_method_5_code
def yX11_wide : MethodName := ⟨RX11, "wide", "(J)J"⟩
abbrev cX11_rounded : ByteArray := prog_13_method_6_code
def yX11_rounded : MethodName := ⟨RX11, "rounded", "(JJ)J"⟩
abbrev cX11_lower : ByteArray := prog_13_method_7_code
def yX11_lower : MethodName := ⟨RX11, "lower", "(JJ)J"⟩
abbrev cX11_size : ByteArray := prog_13_method_8_code
def yX11_size : MethodName := ⟨RX11, "size", "(J)J"⟩
abbrev cX11_norm : ByteArray := prog_13_method_9_code
def yX11_norm : MethodName := ⟨RX11, "norm", "(J)I"⟩
abbrev cX11_bits : ByteArray := prog_13_method_10_code
def yX11_bits : MethodName := ⟨RX11, "bits", "(I)I"⟩
abbrev cX11_tableA : ByteArray := prog_13_method_11_code
def yX11_tableA : MethodName := ⟨RX11, "tableA", "(I)I"⟩
abbrev cX11_tableB : ByteArray := prog_13_method_12_code
def yX11_tableB : MethodName := ⟨RX11, "tableB", "(I)I"⟩
abbrev cX11_least : ByteArray := prog_13_method_13_code
def yX11_least : MethodName := ⟨RX11, "least", "(I)I"⟩
abbrev cX11_tableC : ByteArray := prog_13_method_14_code
def yX11_tableC : MethodName := ⟨RX11, "tableC", "(I)I"⟩
abbrev cX11_tableD : ByteArray := prog_13_method_15_code
def yX11_tableD : MethodName := ⟨RX11, "tableD", "(I)I"⟩
abbrev cX11_tableG : ByteArray := prog_13_method_16_code
def yX11_tableG : MethodName := ⟨RX11, "tableG", "(I)I"⟩
abbrev cX11_tableH : ByteArray := prog_13_method_17_code
def yX11_tableH : MethodName := ⟨RX11, "tableH", "(I)I"⟩
abbrev cX11_tableR : ByteArray := prog_13_method_18_code
def yX11_tableR : MethodName := ⟨RX11, "tableR", "(I)I"⟩
abbrev cX11_tableF : ByteArray := prog_13_method_19_code
def yX11_tableF : MethodName := ⟨RX11, "tableF", "(I)I"⟩
abbrev cX11_put : ByteArray := prog_13_method_20_code
def yX11_put : MethodName := ⟨RX11, "put", "(I)I"⟩
abbrev cX11_fill : ByteArray := prog_13_method_21_code
def yX11_fill : MethodName := ⟨RX11, "fill", "(III)I"⟩
abbrev cX11_prepares : ByteArray := prog_13_method_22_code
def yX11_prepares : MethodName := ⟨RX11, "prepares", "()V"⟩
abbrev cX11_greatest : ByteArray := prog_13_method_23_code
def yX11_greatest : MethodName := ⟨RX11, "greatest", "([JII)J"⟩
abbrev cX11_correlates : ByteArray := prog_13_method_24_code
def yX11_correlates : MethodName := ⟨RX11, "correlates", "()V"⟩
abbrev cX11_reflects : ByteArray := prog_13_method_25_code
def yX11_reflects : MethodName := ⟨RX11, "reflects", "()V"⟩
abbrev cX11_tellsFilter : ByteArray := prog_13_method_26_code
def yX11_tellsFilter : MethodName := ⟨RX11, "tellsFilter", "()V"⟩
abbrev cX11_makesG : ByteArray := prog_13_method_27_code
def yX11_makesG : MethodName := ⟨RX11, "makesG", "()V"⟩
abbrev cX11_makesR : ByteArray := prog_13_method_28_code
def yX11_makesR : MethodName := ⟨RX11, "makesR", "(II)V"⟩
abbrev cX11_keepsG : ByteArray := prog_13_method_29_code
def yX11_keepsG : MethodName := ⟨RX11, "keepsG", "(I)V"⟩
abbrev cX11_leaves : ByteArray := prog_13_method_30_code
def yX11_leaves : MethodName := ⟨RX11, "leaves", "()V"⟩
abbrev cX11_looksBack : ByteArray := prog_13_method_31_code
def yX11_looksBack : MethodName := ⟨RX11, "looksBack", "(II)V"⟩
abbrev cX11_filters : ByteArray := prog_13_method_32_code
def yX11_filters : MethodName := ⟨RX11, "filters", "()V"⟩
abbrev cX11_ofHeight : ByteArray := prog_13_method_33_code
def yX11_ofHeight : MethodName := ⟨RX11, "ofHeight", "(I)V"⟩
abbrev cX11_tellsPulses : ByteArray := prog_13_method_34_code
def yX11_tellsPulses : MethodName := ⟨RX11, "tellsPulses", "(I)V"⟩
abbrev cX11_makes : ByteArray := prog_13_method_35_code
def yX11_makes : MethodName := ⟨RX11, "makes", "(I)V"⟩
abbrev cX11_settles : ByteArray := prog_13_method_36_code
def yX11_settles : MethodName := ⟨RX11, "settles", "(I)V"⟩
abbrev cX11_encode : ByteArray := prog_13_method_37_code
def yX11_encode : MethodName := ⟨RX11, "encode", "()I"⟩
abbrev cX11_parameter : ByteArray := prog_13_method_38_code
def yX11_parameter : MethodName := ⟨RX11, "parameter", "(I)I"⟩
abbrev cX11_feed : ByteArray := prog_13_method_39_code
def yX11_feed : MethodName := ⟨RX11, "feed", "(JI)I"⟩
abbrev cX11_take : ByteArray := prog_13_method_40_code
def yX11_take : MethodName := ⟨RX11, "take", "()I"⟩
abbrev cX11_hand : ByteArray := prog_13_method_41_code
def yX11_hand : MethodName := ⟨RX11, "hand", "(I)I"⟩
abbrev cX11_decode : ByteArray := prog_13_method_42_code
def yX11_decode : MethodName := ⟨RX11, "decode", "()I"⟩
abbrev cX11_sample : ByteArray := prog_13_method_43_code
def yX11_sample : MethodName := ⟨RX11, "sample", "(I)I"⟩
abbrev cX11_reset : ByteArray := prog_13_method_44_code
def yX11_reset : MethodName := ⟨RX11, "reset", "(I)V"⟩
abbrev cX11_clears : ByteArray := prog_13_method_45_code
def yX11_clears : MethodName := ⟨RX11, "clears", "(I)V"⟩
abbrev cX11_state : ByteArray := prog_13_method_46_code
def yX11_state : MethodName := ⟨RX11, "state", "(II)I"⟩
abbrev cX11_about : ByteArray := prog_13_method_47_code
def yX11_about : MethodName := ⟨RX11, "about", "(I)I"⟩
def RJ0 : String := "java/lang/String"
def TJ0 : u_T := fun k => match k with
  | _ => ("", "", "", false)
def tyJ0 : Nat → FieldType := fun k => match k with
  | _ => .int
abbrev wsJ00 : List Cond := u_ws RJ0 TJ0 0
theorem nmJ0 : ∀ a, a < 0 → ∀ b, b < 0 → a ≠ b → (TJ0 a).2.1 ≠ (TJ0 b).2.1 := by decide +kernel
theorem tyJ0_ok : ∀ k, k < 0 → parseFieldDescriptor (TJ0 k).2.2.1 = some (tyJ0 k) := by decide +kernel
def RJ10 : String := "java/lang/System"
def TJ10 : u_T := fun k => match k with
  | _ => ("", "", "", false)
def tyJ10 : Nat → FieldType := fun k => match k with
  | _ => .int
abbrev wsJ100 : List Cond := u_ws RJ10 TJ10 0
theorem nmJ10 : ∀ a, a < 0 → ∀ b, b < 0 → a ≠ b → (TJ10 a).2.1 ≠ (TJ10 b).2.1 := by decide +kernel
theorem tyJ10_ok : ∀ k, k < 0 → parseFieldDescriptor (TJ10 k).2.2.1 = some (tyJ10 k) := by decide +kernel
def RJ7 : String := "java/util/Arrays"
def TJ7 : u_T := fun k => match k with
  | _ => ("", "", "", false)
def tyJ7 : Nat → FieldType := fun k => match k with
  | _ => .int
abbrev wsJ70 : List Cond := u_ws RJ7 TJ7 0
theorem nmJ7 : ∀ a, a < 0 → ∀ b, b < 0 → a ≠ b → (TJ7 a).2.1 ≠ (TJ7 b).2.1 := by decide +kernel
theorem tyJ7_ok : ∀ k, k < 0 → parseFieldDescriptor (TJ7 k).2.2.1 = some (tyJ7 k) := by decide +kernel
abbrev cJ7_fill_53178 : ByteArray := prog_21_method_103_code
def yJ7_fill_53178 : MethodName := ⟨RJ7, "fill", "([II)V"⟩
def RL : String := "VoiceFramesLaw"
abbrev cL_put : ByteArray := method_3_code
def yL_put : MethodName := ⟨RL, "put", "(LVoiceFrames;I[J)I"⟩
abbrev cL_fill : ByteArray := method_4_code
def yL_fill : MethodName := ⟨RL, "fill", "(LVoiceFrames;III[J)I"⟩
abbrev cL_encode : ByteArray := method_5_code
def yL_encode : MethodName := ⟨RL, "encode", "(LVoiceFrames;[J)I"⟩
abbrev cL_parameter : ByteArray := method_6_code
def yL_parameter : MethodName := ⟨RL, "parameter", "(LVoiceFrames;I[J)I"⟩
abbrev cL_feed : ByteArray := method_7_code
def yL_feed : MethodName := ⟨RL, "feed", "(LVoiceFrames;JI[J)I"⟩
abbrev cL_sample : ByteArray := method_8_code
def yL_sample : MethodName := ⟨RL, "sample", "(LVoiceFrames;I[J)I"⟩
abbrev cL_reset : ByteArray := method_9_code
def yL_reset : MethodName := ⟨RL, "reset", "(LVoiceFrames;I)I"⟩
abbrev cL_state : ByteArray := method_10_code
def yL_state : MethodName := ⟨RL, "state", "(LVoiceFrames;II[J)I"⟩
abbrev cL_about : ByteArray := method_11_code
def yL_about : MethodName := ⟨RL, "about", "(LVoiceFrames;I[J)I"⟩
abbrev cL_law : ByteArray := code
def yL_law : MethodName := ⟨RL, "law", "([I)Z"⟩
abbrev vwCl : List vw_C := [(RX0, TX0, 7), (RX1, TX1, 10), (RX2, TX2, 3), (RX3, TX3, 3), (RX5, TX5, 2), (RX6, TX6, 5), (RX7, TX7, 3), (RX8, TX8, 3), (RX9, TX9, 4), (RX10, TX10, 8), (RX11, TX11, 30)]
end
section
theorem dX0_init_0 : decode cX0_init 0 = .ok (.aload_n 0, 1) := by decide +kernel
theorem dX0_init_1 : decode cX0_init 1 = .ok (.invokespecial 3, 3) := by decide +kernel
theorem dX0_init_4 : decode cX0_init 4 = .ok (.aload_n 0, 1) := by decide +kernel
theorem dX0_init_5 : decode cX0_init 5 = .ok (.new 9, 3) := by decide +kernel
theorem dX0_init_8 : decode cX0_init 8 = .ok (.dup, 1) := by decide +kernel
theorem dX0_init_9 : decode cX0_init 9 = .ok (.invokespecial 11, 3) := by decide +kernel
theorem dX0_init_12 : decode cX0_init 12 = .ok (.putfield 12, 3) := by decide +kernel
theorem dX0_init_15 : decode cX0_init 15 = .ok (.aload_n 0, 1) := by decide +kernel
theorem dX0_init_16 : decode cX0_init 16 = .ok (.new 18, 3) := by decide +kernel
theorem dX0_init_19 : decode cX0_init 19 = .ok (.dup, 1) := by decide +kernel
theorem dX0_init_20 : decode cX0_init 20 = .ok (.invokespecial 20, 3) := by decide +kernel
theorem dX0_init_23 : decode cX0_init 23 = .ok (.putfield 21, 3) := by decide +kernel
theorem dX0_init_26 : decode cX0_init 26 = .ok (.aload_n 0, 1) := by decide +kernel
theorem dX0_init_27 : decode cX0_init 27 = .ok (.new 25, 3) := by decide +kernel
theorem dX0_init_30 : decode cX0_init 30 = .ok (.dup, 1) := by decide +kernel
theorem dX0_init_31 : decode cX0_init 31 = .ok (.invokespecial 27, 3) := by decide +kernel
theorem dX0_init_34 : decode cX0_init 34 = .ok (.putfield 28, 3) := by decide +kernel
theorem dX0_init_37 : decode cX0_init 37 = .ok (.aload_n 0, 1) := by decide +kernel
theorem dX0_init_38 : decode cX0_init 38 = .ok (.bipush 9, 2) := by decide +kernel
theorem dX0_init_40 : decode cX0_init 40 = .ok (.newarray .int, 2) := by decide +kernel
theorem dX0_init_42 : decode cX0_init 42 = .ok (.putfield 32, 3) := by decide +kernel
theorem dX0_init_45 : decode cX0_init 45 = .ok (.aload_n 0, 1) := by decide +kernel
theorem dX0_init_46 : decode cX0_init 46 = .ok (.bipush 40, 2) := by decide +kernel
theorem dX0_init_48 : decode cX0_init 48 = .ok (.putfield 36, 3) := by decide +kernel
theorem dX0_init_51 : decode cX0_init 51 = .ok (.return_, 1) := by decide +kernel
theorem dX0_speak_0 : decode cX0_speak 0 = .ok (.iconst 0, 1) := by decide +kernel
theorem dX0_speak_1 : decode cX0_speak 1 = .ok (.istore_n 3, 1) := by decide +kernel
theorem dX0_speak_2 : decode cX0_speak 2 = .ok (.iload_n 3, 1) := by decide +kernel
theorem dX0_speak_3 : decode cX0_speak 3 = .ok (.iconst 4, 1) := by decide +kernel
theorem dX0_speak_4 : decode cX0_speak 4 = .ok (.if_icmp .ge 15, 3) := by decide +kernel
theorem dX0_speak_7 : decode cX0_speak 7 = .ok (.aload_n 0, 1) := by decide +kernel
theorem dX0_speak_8 : decode cX0_speak 8 = .ok (.iload_n 3, 1) := by decide +kernel
theorem dX0_speak_9 : decode cX0_speak 9 = .ok (.aload_n 1, 1) := by decide +kernel
theorem dX0_speak_10 : decode cX0_speak 10 = .ok (.invokevirtual 40, 3) := by decide +kernel
theorem dX0_speak_13 : decode cX0_speak 13 = .ok (.iinc 3 1, 3) := by decide +kernel
theorem dX0_speak_16 : decode cX0_speak 16 = .ok (.goto (-14), 3) := by decide +kernel
theorem dX0_speak_19 : decode cX0_speak 19 = .ok (.aload_n 0, 1) := by decide +kernel
theorem dX0_speak_20 : decode cX0_speak 20 = .ok (.getfield 12, 3) := by decide +kernel
theorem dX0_speak_23 : decode cX0_speak 23 = .ok (.aload_n 1, 1) := by decide +kernel
theorem dX0_speak_24 : decode cX0_speak 24 = .ok (.invokevirtual 44, 3) := by decide +kernel
theorem dX0_speak_27 : decode cX0_speak 27 = .ok (.aload_n 0, 1) := by decide +kernel
theorem dX0_speak_28 : decode cX0_speak 28 = .ok (.aload_n 2, 1) := by decide +kernel
theorem dX0_speak_29 : decode cX0_speak 29 = .ok (.invokevirtual 48, 3) := by decide +kernel
theorem dX0_speak_32 : decode cX0_speak 32 = .ok (.aload_n 0, 1) := by decide +kernel
theorem dX0_speak_33 : decode cX0_speak 33 = .ok (.getfield 21, 3) := by decide +kernel
theorem dX0_speak_36 : decode cX0_speak 36 = .ok (.invokevirtual 51, 3) := by decide +kernel
theorem dX0_speak_39 : decode cX0_speak 39 = .ok (.aload_n 0, 1) := by decide +kernel
theorem dX0_speak_40 : decode cX0_speak 40 = .ok (.dup, 1) := by decide +kernel
theorem dX0_speak_41 : decode cX0_speak 41 = .ok (.getfield 54, 3) := by decide +kernel
theorem dX0_speak_44 : decode cX0_speak 44 = .ok (.iconst 1, 1) := by decide +kernel
theorem dX0_speak_45 : decode cX0_speak 45 = .ok (.iadd, 1) := by decide +kernel
theorem dX0_speak_46 : decode cX0_speak 46 = .ok (.putfield 54, 3) := by decide +kernel
theorem dX0_speak_49 : decode cX0_speak 49 = .ok (.return_, 1) := by decide +kernel
theorem dX0_forget_0 : decode cX0_forget 0 = .ok (.aload_n 0, 1) := by decide +kernel
theorem dX0_forget_1 : decode cX0_forget 1 = .ok (.getfield 12, 3) := by decide +kernel
theorem dX0_forget_4 : decode cX0_forget 4 = .ok (.invokevirtual 57, 3) := by decide +kernel
theorem dX0_forget_7 : decode cX0_forget 7 = .ok (.aload_n 0, 1) := by decide +kernel
theorem dX0_forget_8 : decode cX0_forget 8 = .ok (.getfield 21, 3) := by decide +kernel
theorem dX0_forget_11 : decode cX0_forget 11 = .ok (.invokevirtual 60, 3) := by decide +kernel
theorem dX0_forget_14 : decode cX0_forget 14 = .ok (.aload_n 0, 1) := by decide +kernel
theorem dX0_forget_15 : decode cX0_forget 15 = .ok (.getfield 32, 3) := by decide +kernel
theorem dX0_forget_18 : decode cX0_forget 18 = .ok (.iconst 0, 1) := by decide +kernel
theorem dX0_forget_19 : decode cX0_forget 19 = .ok (.invokestatic 61, 3) := by decide +kernel
theorem dX0_forget_22 : decode cX0_forget 22 = .ok (.aload_n 0, 1) := by decide +kernel
theorem dX0_forget_23 : decode cX0_forget 23 = .ok (.bipush 40, 2) := by decide +kernel
theorem dX0_forget_25 : decode cX0_forget 25 = .ok (.putfield 36, 3) := by decide +kernel
theorem dX0_forget_28 : decode cX0_forget 28 = .ok (.aload_n 0, 1) := by decide +kernel
theorem dX0_forget_29 : decode cX0_forget 29 = .ok (.iconst 0, 1) := by decide +kernel
theorem dX0_forget_30 : decode cX0_forget 30 = .ok (.putfield 67, 3) := by decide +kernel
theorem dX0_forget_33 : decode cX0_forget 33 = .ok (.aload_n 0, 1) := by decide +kernel
theorem dX0_forget_34 : decode cX0_forget 34 = .ok (.iconst 0, 1) := by decide +kernel
theorem dX0_forget_35 : decode cX0_forget 35 = .ok (.putfield 54, 3) := by decide +kernel
theorem dX0_forget_38 : decode cX0_forget 38 = .ok (.return_, 1) := by decide +kernel
theorem dX0_rebuildPart_0 : decode cX0_rebuildPart 0 = .ok (.bipush 8, 2) := by decide +kernel
theorem dX0_rebuildPart_2 : decode cX0_rebuildPart 2 = .ok (.bipush 17, 2) := by decide +kernel
theorem dX0_rebuildPart_4 : decode cX0_rebuildPart 4 = .ok (.iload_n 1, 1) := by decide +kernel
theorem dX0_rebuildPart_5 : decode cX0_rebuildPart 5 = .ok (.imul, 1) := by decide +kernel
theorem dX0_rebuildPart_6 : decode cX0_rebuildPart 6 = .ok (.iadd, 1) := by decide +kernel
theorem dX0_rebuildPart_7 : decode cX0_rebuildPart 7 = .ok (.istore_n 3, 1) := by decide +kernel
theorem dX0_rebuildPart_8 : decode cX0_rebuildPart 8 = .ok (.aload_n 2, 1) := by decide +kernel
theorem dX0_rebuildPart_9 : decode cX0_rebuildPart 9 = .ok (.iload_n 3, 1) := by decide +kernel
theorem dX0_rebuildPart_10 : decode cX0_rebuildPart 10 = .ok (.iaload, 1) := by decide +kernel
theorem dX0_rebuildPart_11 : decode cX0_rebuildPart 11 = .ok (.istore 4, 2) := by decide +kernel
theorem dX0_rebuildPart_13 : decode cX0_rebuildPart 13 = .ok (.iload 4, 2) := by decide +kernel
theorem dX0_rebuildPart_15 : decode cX0_rebuildPart 15 = .ok (.bipush 40, 2) := by decide +kernel
theorem dX0_rebuildPart_17 : decode cX0_rebuildPart 17 = .ok (.if_icmp .lt 16, 3) := by decide +kernel
theorem dX0_rebuildPart_20 : decode cX0_rebuildPart 20 = .ok (.iload 4, 2) := by decide +kernel
theorem dX0_rebuildPart_22 : decode cX0_rebuildPart 22 = .ok (.bipush 120, 2) := by decide +kernel
theorem dX0_rebuildPart_24 : decode cX0_rebuildPart 24 = .ok (.if_icmp .gt 9, 3) := by decide +kernel
theorem dX0_rebuildPart_27 : decode cX0_rebuildPart 27 = .ok (.aload_n 0, 1) := by decide +kernel
theorem dX0_rebuildPart_28 : decode cX0_rebuildPart 28 = .ok (.iload 4, 2) := by decide +kernel
theorem dX0_rebuildPart_30 : decode cX0_rebuildPart 30 = .ok (.putfield 36, 3) := by decide +kernel
theorem dX0_rebuildPart_33 : decode cX0_rebuildPart 33 = .ok (.aload_n 0, 1) := by decide +kernel
theorem dX0_rebuildPart_34 : decode cX0_rebuildPart 34 = .ok (.getfield 28, 3) := by decide +kernel
theorem dX0_rebuildPart_37 : decode cX0_rebuildPart 37 = .ok (.aload_n 2, 1) := by decide +kernel
theorem dX0_rebuildPart_38 : decode cX0_rebuildPart 38 = .ok (.iload_n 3, 1) := by decide +kernel
theorem dX0_rebuildPart_39 : decode cX0_rebuildPart 39 = .ok (.invokevirtual 70, 3) := by decide +kernel
theorem dX0_rebuildPart_42 : decode cX0_rebuildPart 42 = .ok (.aload_n 0, 1) := by decide +kernel
theorem dX0_rebuildPart_43 : decode cX0_rebuildPart 43 = .ok (.getfield 21, 3) := by decide +kernel
theorem dX0_rebuildPart_46 : decode cX0_rebuildPart 46 = .ok (.iload_n 1, 1) := by decide +kernel
theorem dX0_rebuildPart_47 : decode cX0_rebuildPart 47 = .ok (.aload_n 0, 1) := by decide +kernel
theorem dX0_rebuildPart_48 : decode cX0_rebuildPart 48 = .ok (.getfield 36, 3) := by decide +kernel
theorem dX0_rebuildPart_51 : decode cX0_rebuildPart 51 = .ok (.aload_n 2, 1) := by decide +kernel
theorem dX0_rebuildPart_52 : decode cX0_rebuildPart 52 = .ok (.iload_n 3, 1) := by decide +kernel
theorem dX0_rebuildPart_53 : decode cX0_rebuildPart 53 = .ok (.iconst 1, 1) := by decide +kernel
theorem dX0_rebuildPart_54 : decode cX0_rebuildPart 54 = .ok (.iadd, 1) := by decide +kernel
theorem dX0_rebuildPart_55 : decode cX0_rebuildPart 55 = .ok (.iaload, 1) := by decide +kernel
theorem dX0_rebuildPart_56 : decode cX0_rebuildPart 56 = .ok (.invokevirtual 73, 3) := by decide +kernel
theorem dX0_rebuildPart_59 : decode cX0_rebuildPart 59 = .ok (.aload_n 0, 1) := by decide +kernel
theorem dX0_rebuildPart_60 : decode cX0_rebuildPart 60 = .ok (.getfield 21, 3) := by decide +kernel
theorem dX0_rebuildPart_63 : decode cX0_rebuildPart 63 = .ok (.iload_n 1, 1) := by decide +kernel
theorem dX0_rebuildPart_64 : decode cX0_rebuildPart 64 = .ok (.aload_n 0, 1) := by decide +kernel
theorem dX0_rebuildPart_65 : decode cX0_rebuildPart 65 = .ok (.getfield 28, 3) := by decide +kernel
theorem dX0_rebuildPart_68 : decode cX0_rebuildPart 68 = .ok (.getfield 77, 3) := by decide +kernel
theorem dX0_rebuildPart_71 : decode cX0_rebuildPart 71 = .ok (.invokevirtual 80, 3) := by decide +kernel
theorem dX0_rebuildPart_74 : decode cX0_rebuildPart 74 = .ok (.return_, 1) := by decide +kernel
theorem dX0_giveBack_0 : decode cX0_giveBack 0 = .ok (.iconst 0, 1) := by decide +kernel
theorem dX0_giveBack_1 : decode cX0_giveBack 1 = .ok (.istore_n 2, 1) := by decide +kernel
theorem dX0_giveBack_2 : decode cX0_giveBack 2 = .ok (.iconst 0, 1) := by decide +kernel
theorem dX0_giveBack_3 : decode cX0_giveBack 3 = .ok (.istore_n 3, 1) := by decide +kernel
theorem dX0_giveBack_4 : decode cX0_giveBack 4 = .ok (.iload_n 3, 1) := by decide +kernel
theorem dX0_giveBack_5 : decode cX0_giveBack 5 = .ok (.getstatic 83, 3) := by decide +kernel
theorem dX0_giveBack_8 : decode cX0_giveBack 8 = .ok (.arraylength, 1) := by decide +kernel
theorem dX0_giveBack_9 : decode cX0_giveBack 9 = .ok (.if_icmp .ge 53, 3) := by decide +kernel
theorem dX0_giveBack_12 : decode cX0_giveBack 12 = .ok (.aload_n 0, 1) := by decide +kernel
theorem dX0_giveBack_13 : decode cX0_giveBack 13 = .ok (.getfield 12, 3) := by decide +kernel
theorem dX0_giveBack_16 : decode cX0_giveBack 16 = .ok (.iload_n 3, 1) := by decide +kernel
theorem dX0_giveBack_17 : decode cX0_giveBack 17 = .ok (.invokevirtual 86, 3) := by decide +kernel
theorem dX0_giveBack_20 : decode cX0_giveBack 20 = .ok (.iload_n 2, 1) := by decide +kernel
theorem dX0_giveBack_21 : decode cX0_giveBack 21 = .ok (.getstatic 83, 3) := by decide +kernel
theorem dX0_giveBack_24 : decode cX0_giveBack 24 = .ok (.iload_n 3, 1) := by decide +kernel
theorem dX0_giveBack_25 : decode cX0_giveBack 25 = .ok (.iaload, 1) := by decide +kernel
theorem dX0_giveBack_26 : decode cX0_giveBack 26 = .ok (.if_icmp .ge 30, 3) := by decide +kernel
theorem dX0_giveBack_29 : decode cX0_giveBack 29 = .ok (.aload_n 1, 1) := by decide +kernel
theorem dX0_giveBack_30 : decode cX0_giveBack 30 = .ok (.iload_n 2, 1) := by decide +kernel
theorem dX0_giveBack_31 : decode cX0_giveBack 31 = .ok (.aload_n 0, 1) := by decide +kernel
theorem dX0_giveBack_32 : decode cX0_giveBack 32 = .ok (.aload_n 0, 1) := by decide +kernel
theorem dX0_giveBack_33 : decode cX0_giveBack 33 = .ok (.getfield 21, 3) := by decide +kernel
theorem dX0_giveBack_36 : decode cX0_giveBack 36 = .ok (.getfield 90, 3) := by decide +kernel
theorem dX0_giveBack_39 : decode cX0_giveBack 39 = .ok (.iconst 0, 1) := by decide +kernel
theorem dX0_giveBack_40 : decode cX0_giveBack 40 = .ok (.invokestatic 93, 3) := by decide +kernel
theorem dX0_giveBack_43 : decode cX0_giveBack 43 = .ok (.iload_n 2, 1) := by decide +kernel
theorem dX0_giveBack_44 : decode cX0_giveBack 44 = .ok (.iadd, 1) := by decide +kernel
theorem dX0_giveBack_45 : decode cX0_giveBack 45 = .ok (.iaload, 1) := by decide +kernel
theorem dX0_giveBack_46 : decode cX0_giveBack 46 = .ok (.invokevirtual 97, 3) := by decide +kernel
theorem dX0_giveBack_49 : decode cX0_giveBack 49 = .ok (.iastore, 1) := by decide +kernel
theorem dX0_giveBack_50 : decode cX0_giveBack 50 = .ok (.iinc 2 1, 3) := by decide +kernel
theorem dX0_giveBack_53 : decode cX0_giveBack 53 = .ok (.goto (-33), 3) := by decide +kernel
theorem dX0_giveBack_56 : decode cX0_giveBack 56 = .ok (.iinc 3 1, 3) := by decide +kernel
theorem dX0_giveBack_59 : decode cX0_giveBack 59 = .ok (.goto (-55), 3) := by decide +kernel
theorem dX0_giveBack_62 : decode cX0_giveBack 62 = .ok (.return_, 1) := by decide +kernel
theorem dX0_spoken_0 : decode cX0_spoken 0 = .ok (.iload_n 1, 1) := by decide +kernel
theorem dX0_spoken_1 : decode cX0_spoken 1 = .ok (.istore_n 2, 1) := by decide +kernel
theorem dX0_spoken_2 : decode cX0_spoken 2 = .ok (.bipush 8, 2) := by decide +kernel
theorem dX0_spoken_4 : decode cX0_spoken 4 = .ok (.istore_n 3, 1) := by decide +kernel
theorem dX0_spoken_5 : decode cX0_spoken 5 = .ok (.iload_n 3, 1) := by decide +kernel
theorem dX0_spoken_6 : decode cX0_spoken 6 = .ok (.iconst 1, 1) := by decide +kernel
theorem dX0_spoken_7 : decode cX0_spoken 7 = .ok (.if_icmp .lt 65, 3) := by decide +kernel
theorem dX0_spoken_10 : decode cX0_spoken 10 = .ok (.aload_n 0, 1) := by decide +kernel
theorem dX0_spoken_11 : decode cX0_spoken 11 = .ok (.getfield 12, 3) := by decide +kernel
theorem dX0_spoken_14 : decode cX0_spoken 14 = .ok (.getfield 100, 3) := by decide +kernel
theorem dX0_spoken_17 : decode cX0_spoken 17 = .ok (.iload_n 3, 1) := by decide +kernel
theorem dX0_spoken_18 : decode cX0_spoken 18 = .ok (.iconst 1, 1) := by decide +kernel
theorem dX0_spoken_19 : decode cX0_spoken 19 = .ok (.isub, 1) := by decide +kernel
theorem dX0_spoken_20 : decode cX0_spoken 20 = .ok (.iaload, 1) := by decide +kernel
theorem dX0_spoken_21 : decode cX0_spoken 21 = .ok (.istore 4, 2) := by decide +kernel
theorem dX0_spoken_23 : decode cX0_spoken 23 = .ok (.iload_n 2, 1) := by decide +kernel
theorem dX0_spoken_24 : decode cX0_spoken 24 = .ok (.iload 4, 2) := by decide +kernel
theorem dX0_spoken_26 : decode cX0_spoken 26 = .ok (.aload_n 0, 1) := by decide +kernel
theorem dX0_spoken_27 : decode cX0_spoken 27 = .ok (.getfield 32, 3) := by decide +kernel
theorem dX0_spoken_30 : decode cX0_spoken 30 = .ok (.iload_n 3, 1) := by decide +kernel
theorem dX0_spoken_31 : decode cX0_spoken 31 = .ok (.iconst 1, 1) := by decide +kernel
theorem dX0_spoken_32 : decode cX0_spoken 32 = .ok (.isub, 1) := by decide +kernel
theorem dX0_spoken_33 : decode cX0_spoken 33 = .ok (.iaload, 1) := by decide +kernel
theorem dX0_spoken_34 : decode cX0_spoken 34 = .ok (.invokestatic 103, 3) := by decide +kernel
theorem dX0_spoken_37 : decode cX0_spoken 37 = .ok (.isub, 1) := by decide +kernel
theorem dX0_spoken_38 : decode cX0_spoken 38 = .ok (.invokestatic 109, 3) := by decide +kernel
theorem dX0_spoken_41 : decode cX0_spoken 41 = .ok (.istore_n 2, 1) := by decide +kernel
theorem dX0_spoken_42 : decode cX0_spoken 42 = .ok (.aload_n 0, 1) := by decide +kernel
theorem dX0_spoken_43 : decode cX0_spoken 43 = .ok (.getfield 32, 3) := by decide +kernel
theorem dX0_spoken_46 : decode cX0_spoken 46 = .ok (.iload_n 3, 1) := by decide +kernel
theorem dX0_spoken_47 : decode cX0_spoken 47 = .ok (.aload_n 0, 1) := by decide +kernel
theorem dX0_spoken_48 : decode cX0_spoken 48 = .ok (.getfield 32, 3) := by decide +kernel
theorem dX0_spoken_51 : decode cX0_spoken 51 = .ok (.iload_n 3, 1) := by decide +kernel
theorem dX0_spoken_52 : decode cX0_spoken 52 = .ok (.iconst 1, 1) := by decide +kernel
theorem dX0_spoken_53 : decode cX0_spoken 53 = .ok (.isub, 1) := by decide +kernel
theorem dX0_spoken_54 : decode cX0_spoken 54 = .ok (.iaload, 1) := by decide +kernel
theorem dX0_spoken_55 : decode cX0_spoken 55 = .ok (.iload 4, 2) := by decide +kernel
theorem dX0_spoken_57 : decode cX0_spoken 57 = .ok (.iload_n 2, 1) := by decide +kernel
theorem dX0_spoken_58 : decode cX0_spoken 58 = .ok (.invokestatic 103, 3) := by decide +kernel
theorem dX0_spoken_61 : decode cX0_spoken 61 = .ok (.iadd, 1) := by decide +kernel
theorem dX0_spoken_62 : decode cX0_spoken 62 = .ok (.invokestatic 109, 3) := by decide +kernel
theorem dX0_spoken_65 : decode cX0_spoken 65 = .ok (.iastore, 1) := by decide +kernel
theorem dX0_spoken_66 : decode cX0_spoken 66 = .ok (.iinc 3 (-1), 3) := by decide +kernel
theorem dX0_spoken_69 : decode cX0_spoken 69 = .ok (.goto (-64), 3) := by decide +kernel
theorem dX0_spoken_72 : decode cX0_spoken 72 = .ok (.aload_n 0, 1) := by decide +kernel
theorem dX0_spoken_73 : decode cX0_spoken 73 = .ok (.getfield 32, 3) := by decide +kernel
theorem dX0_spoken_76 : decode cX0_spoken 76 = .ok (.iconst 0, 1) := by decide +kernel
theorem dX0_spoken_77 : decode cX0_spoken 77 = .ok (.iload_n 2, 1) := by decide +kernel
theorem dX0_spoken_78 : decode cX0_spoken 78 = .ok (.iastore, 1) := by decide +kernel
theorem dX0_spoken_79 : decode cX0_spoken 79 = .ok (.aload_n 0, 1) := by decide +kernel
theorem dX0_spoken_80 : decode cX0_spoken 80 = .ok (.iload_n 2, 1) := by decide +kernel
theorem dX0_spoken_81 : decode cX0_spoken 81 = .ok (.aload_n 0, 1) := by decide +kernel
theorem dX0_spoken_82 : decode cX0_spoken 82 = .ok (.getfield 67, 3) := by decide +kernel
theorem dX0_spoken_85 : decode cX0_spoken 85 = .ok (.sipush 28180, 3) := by decide +kernel
theorem dX0_spoken_88 : decode cX0_spoken 88 = .ok (.invokestatic 103, 3) := by decide +kernel
theorem dX0_spoken_91 : decode cX0_spoken 91 = .ok (.iadd, 1) := by decide +kernel
theorem dX0_spoken_92 : decode cX0_spoken 92 = .ok (.invokestatic 109, 3) := by decide +kernel
theorem dX0_spoken_95 : decode cX0_spoken 95 = .ok (.putfield 67, 3) := by decide +kernel
theorem dX0_spoken_98 : decode cX0_spoken 98 = .ok (.iconst 2, 1) := by decide +kernel
theorem dX0_spoken_99 : decode cX0_spoken 99 = .ok (.aload_n 0, 1) := by decide +kernel
theorem dX0_spoken_100 : decode cX0_spoken 100 = .ok (.getfield 67, 3) := by decide +kernel
theorem dX0_spoken_103 : decode cX0_spoken 103 = .ok (.imul, 1) := by decide +kernel
theorem dX0_spoken_104 : decode cX0_spoken 104 = .ok (.invokestatic 109, 3) := by decide +kernel
theorem dX0_spoken_107 : decode cX0_spoken 107 = .ok (.bipush (-8), 2) := by decide +kernel
theorem dX0_spoken_109 : decode cX0_spoken 109 = .ok (.iand, 1) := by decide +kernel
theorem dX0_spoken_110 : decode cX0_spoken 110 = .ok (.ireturn, 1) := by decide +kernel
theorem dX1_init_0 : decode cX1_init 0 = .ok (.aload_n 0, 1) := by decide +kernel
theorem dX1_init_1 : decode cX1_init 1 = .ok (.invokespecial 3, 3) := by decide +kernel
theorem dX1_init_4 : decode cX1_init 4 = .ok (.aload_n 0, 1) := by decide +kernel
theorem dX1_init_5 : decode cX1_init 5 = .ok (.new 9, 3) := by decide +kernel
theorem dX1_init_8 : decode cX1_init 8 = .ok (.dup, 1) := by decide +kernel
theorem dX1_init_9 : decode cX1_init 9 = .ok (.invokespecial 11, 3) := by decide +kernel
theorem dX1_init_12 : decode cX1_init 12 = .ok (.putfield 12, 3) := by decide +kernel
theorem dX1_init_15 : decode cX1_init 15 = .ok (.aload_n 0, 1) := by decide +kernel
theorem dX1_init_16 : decode cX1_init 16 = .ok (.new 18, 3) := by decide +kernel
theorem dX1_init_19 : decode cX1_init 19 = .ok (.dup, 1) := by decide +kernel
theorem dX1_init_20 : decode cX1_init 20 = .ok (.invokespecial 20, 3) := by decide +kernel
theorem dX1_init_23 : decode cX1_init 23 = .ok (.putfield 21, 3) := by decide +kernel
theorem dX1_init_26 : decode cX1_init 26 = .ok (.aload_n 0, 1) := by decide +kernel
theorem dX1_init_27 : decode cX1_init 27 = .ok (.new 25, 3) := by decide +kernel
theorem dX1_init_30 : decode cX1_init 30 = .ok (.dup, 1) := by decide +kernel
theorem dX1_init_31 : decode cX1_init 31 = .ok (.invokespecial 27, 3) := by decide +kernel
theorem dX1_init_34 : decode cX1_init 34 = .ok (.putfield 28, 3) := by decide +kernel
theorem dX1_init_37 : decode cX1_init 37 = .ok (.aload_n 0, 1) := by decide +kernel
theorem dX1_init_38 : decode cX1_init 38 = .ok (.new 32, 3) := by decide +kernel
theorem dX1_init_41 : decode cX1_init 41 = .ok (.dup, 1) := by decide +kernel
theorem dX1_init_42 : decode cX1_init 42 = .ok (.invokespecial 34, 3) := by decide +kernel
theorem dX1_init_45 : decode cX1_init 45 = .ok (.putfield 35, 3) := by decide +kernel
theorem dX1_init_48 : decode cX1_init 48 = .ok (.aload_n 0, 1) := by decide +kernel
theorem dX1_init_49 : decode cX1_init 49 = .ok (.new 39, 3) := by decide +kernel
theorem dX1_init_52 : decode cX1_init 52 = .ok (.dup, 1) := by decide +kernel
theorem dX1_init_53 : decode cX1_init 53 = .ok (.invokespecial 41, 3) := by decide +kernel
theorem dX1_init_56 : decode cX1_init 56 = .ok (.putfield 42, 3) := by decide +kernel
theorem dX1_init_59 : decode cX1_init 59 = .ok (.aload_n 0, 1) := by decide +kernel
theorem dX1_init_60 : decode cX1_init 60 = .ok (.new 46, 3) := by decide +kernel
theorem dX1_init_63 : decode cX1_init 63 = .ok (.dup, 1) := by decide +kernel
theorem dX1_init_64 : decode cX1_init 64 = .ok (.invokespecial 48, 3) := by decide +kernel
theorem dX1_init_67 : decode cX1_init 67 = .ok (.putfield 49, 3) := by decide +kernel
theorem dX1_init_70 : decode cX1_init 70 = .ok (.aload_n 0, 1) := by decide +kernel
theorem dX1_init_71 : decode cX1_init 71 = .ok (.new 53, 3) := by decide +kernel
theorem dX1_init_74 : decode cX1_init 74 = .ok (.dup, 1) := by decide +kernel
theorem dX1_init_75 : decode cX1_init 75 = .ok (.invokespecial 55, 3) := by decide +kernel
theorem dX1_init_78 : decode cX1_init 78 = .ok (.putfield 56, 3) := by decide +kernel
theorem dX1_init_81 : decode cX1_init 81 = .ok (.aload_n 0, 1) := by decide +kernel
theorem dX1_init_82 : decode cX1_init 82 = .ok (.sipush 160, 3) := by decide +kernel
theorem dX1_init_85 : decode cX1_init 85 = .ok (.newarray .int, 2) := by decide +kernel
theorem dX1_init_87 : decode cX1_init 87 = .ok (.putfield 60, 3) := by decide +kernel
theorem dX1_init_90 : decode cX1_init 90 = .ok (.aload_n 0, 1) := by decide +kernel
theorem dX1_init_91 : decode cX1_init 91 = .ok (.bipush 8, 2) := by decide +kernel
theorem dX1_init_93 : decode cX1_init 93 = .ok (.newarray .int, 2) := by decide +kernel
theorem dX1_init_95 : decode cX1_init 95 = .ok (.putfield 64, 3) := by decide +kernel
theorem dX1_init_98 : decode cX1_init 98 = .ok (.return_, 1) := by decide +kernel
theorem dX1_describe_0 : decode cX1_describe 0 = .ok (.aload_n 0, 1) := by decide +kernel
theorem dX1_describe_1 : decode cX1_describe 1 = .ok (.getfield 12, 3) := by decide +kernel
theorem dX1_describe_4 : decode cX1_describe 4 = .ok (.aload_n 1, 1) := by decide +kernel
theorem dX1_describe_5 : decode cX1_describe 5 = .ok (.aload_n 0, 1) := by decide +kernel
theorem dX1_describe_6 : decode cX1_describe 6 = .ok (.getfield 60, 3) := by decide +kernel
theorem dX1_describe_9 : decode cX1_describe 9 = .ok (.invokevirtual 67, 3) := by decide +kernel
theorem dX1_describe_12 : decode cX1_describe 12 = .ok (.aload_n 0, 1) := by decide +kernel
theorem dX1_describe_13 : decode cX1_describe 13 = .ok (.getfield 21, 3) := by decide +kernel
theorem dX1_describe_16 : decode cX1_describe 16 = .ok (.aload_n 0, 1) := by decide +kernel
theorem dX1_describe_17 : decode cX1_describe 17 = .ok (.getfield 60, 3) := by decide +kernel
theorem dX1_describe_20 : decode cX1_describe 20 = .ok (.aload_n 2, 1) := by decide +kernel
theorem dX1_describe_21 : decode cX1_describe 21 = .ok (.invokevirtual 71, 3) := by decide +kernel
theorem dX1_describe_24 : decode cX1_describe 24 = .ok (.aload_n 0, 1) := by decide +kernel
theorem dX1_describe_25 : decode cX1_describe 25 = .ok (.getfield 28, 3) := by decide +kernel
theorem dX1_describe_28 : decode cX1_describe 28 = .ok (.aload_n 2, 1) := by decide +kernel
theorem dX1_describe_29 : decode cX1_describe 29 = .ok (.invokevirtual 74, 3) := by decide +kernel
theorem dX1_describe_32 : decode cX1_describe 32 = .ok (.aload_n 0, 1) := by decide +kernel
theorem dX1_describe_33 : decode cX1_describe 33 = .ok (.invokevirtual 78, 3) := by decide +kernel
theorem dX1_describe_36 : decode cX1_describe 36 = .ok (.iconst 0, 1) := by decide +kernel
theorem dX1_describe_37 : decode cX1_describe 37 = .ok (.istore_n 3, 1) := by decide +kernel
theorem dX1_describe_38 : decode cX1_describe 38 = .ok (.iload_n 3, 1) := by decide +kernel
theorem dX1_describe_39 : decode cX1_describe 39 = .ok (.iconst 4, 1) := by decide +kernel
theorem dX1_describe_40 : decode cX1_describe 40 = .ok (.if_icmp .ge 15, 3) := by decide +kernel
theorem dX1_describe_43 : decode cX1_describe 43 = .ok (.aload_n 0, 1) := by decide +kernel
theorem dX1_describe_44 : decode cX1_describe 44 = .ok (.iload_n 3, 1) := by decide +kernel
theorem dX1_describe_45 : decode cX1_describe 45 = .ok (.aload_n 2, 1) := by decide +kernel
theorem dX1_describe_46 : decode cX1_describe 46 = .ok (.invokevirtual 81, 3) := by decide +kernel
theorem dX1_describe_49 : decode cX1_describe 49 = .ok (.iinc 3 1, 3) := by decide +kernel
theorem dX1_describe_52 : decode cX1_describe 52 = .ok (.goto (-14), 3) := by decide +kernel
theorem dX1_describe_55 : decode cX1_describe 55 = .ok (.aload_n 0, 1) := by decide +kernel
theorem dX1_describe_56 : decode cX1_describe 56 = .ok (.getfield 35, 3) := by decide +kernel
theorem dX1_describe_59 : decode cX1_describe 59 = .ok (.invokevirtual 85, 3) := by decide +kernel
theorem dX1_describe_62 : decode cX1_describe 62 = .ok (.aload_n 0, 1) := by decide +kernel
theorem dX1_describe_63 : decode cX1_describe 63 = .ok (.dup, 1) := by decide +kernel
theorem dX1_describe_64 : decode cX1_describe 64 = .ok (.getfield 88, 3) := by decide +kernel
theorem dX1_describe_67 : decode cX1_describe 67 = .ok (.iconst 1, 1) := by decide +kernel
theorem dX1_describe_68 : decode cX1_describe 68 = .ok (.iadd, 1) := by decide +kernel
theorem dX1_describe_69 : decode cX1_describe 69 = .ok (.putfield 88, 3) := by decide +kernel
theorem dX1_describe_72 : decode cX1_describe 72 = .ok (.return_, 1) := by decide +kernel
theorem dX1_forget_0 : decode cX1_forget 0 = .ok (.aload_n 0, 1) := by decide +kernel
theorem dX1_forget_1 : decode cX1_forget 1 = .ok (.getfield 12, 3) := by decide +kernel
theorem dX1_forget_4 : decode cX1_forget 4 = .ok (.invokevirtual 92, 3) := by decide +kernel
theorem dX1_forget_7 : decode cX1_forget 7 = .ok (.aload_n 0, 1) := by decide +kernel
theorem dX1_forget_8 : decode cX1_forget 8 = .ok (.getfield 28, 3) := by decide +kernel
theorem dX1_forget_11 : decode cX1_forget 11 = .ok (.invokevirtual 95, 3) := by decide +kernel
theorem dX1_forget_14 : decode cX1_forget 14 = .ok (.aload_n 0, 1) := by decide +kernel
theorem dX1_forget_15 : decode cX1_forget 15 = .ok (.getfield 35, 3) := by decide +kernel
theorem dX1_forget_18 : decode cX1_forget 18 = .ok (.invokevirtual 96, 3) := by decide +kernel
theorem dX1_forget_21 : decode cX1_forget 21 = .ok (.aload_n 0, 1) := by decide +kernel
theorem dX1_forget_22 : decode cX1_forget 22 = .ok (.getfield 64, 3) := by decide +kernel
theorem dX1_forget_25 : decode cX1_forget 25 = .ok (.iconst 0, 1) := by decide +kernel
theorem dX1_forget_26 : decode cX1_forget 26 = .ok (.invokestatic 97, 3) := by decide +kernel
theorem dX1_forget_29 : decode cX1_forget 29 = .ok (.aload_n 0, 1) := by decide +kernel
theorem dX1_forget_30 : decode cX1_forget 30 = .ok (.iconst 0, 1) := by decide +kernel
theorem dX1_forget_31 : decode cX1_forget 31 = .ok (.putfield 88, 3) := by decide +kernel
theorem dX1_forget_34 : decode cX1_forget 34 = .ok (.return_, 1) := by decide +kernel
theorem dX1_takeAway_0 : decode cX1_takeAway 0 = .ok (.iconst 0, 1) := by decide +kernel
theorem dX1_takeAway_1 : decode cX1_takeAway 1 = .ok (.istore_n 1, 1) := by decide +kernel
theorem dX1_takeAway_2 : decode cX1_takeAway 2 = .ok (.iconst 0, 1) := by decide +kernel
theorem dX1_takeAway_3 : decode cX1_takeAway 3 = .ok (.istore_n 2, 1) := by decide +kernel
theorem dX1_takeAway_4 : decode cX1_takeAway 4 = .ok (.iload_n 2, 1) := by decide +kernel
theorem dX1_takeAway_5 : decode cX1_takeAway 5 = .ok (.getstatic 103, 3) := by decide +kernel
theorem dX1_takeAway_8 : decode cX1_takeAway 8 = .ok (.arraylength, 1) := by decide +kernel
theorem dX1_takeAway_9 : decode cX1_takeAway 9 = .ok (.if_icmp .ge 48, 3) := by decide +kernel
theorem dX1_takeAway_12 : decode cX1_takeAway 12 = .ok (.aload_n 0, 1) := by decide +kernel
theorem dX1_takeAway_13 : decode cX1_takeAway 13 = .ok (.getfield 28, 3) := by decide +kernel
theorem dX1_takeAway_16 : decode cX1_takeAway 16 = .ok (.iload_n 2, 1) := by decide +kernel
theorem dX1_takeAway_17 : decode cX1_takeAway 17 = .ok (.invokevirtual 106, 3) := by decide +kernel
theorem dX1_takeAway_20 : decode cX1_takeAway 20 = .ok (.iload_n 1, 1) := by decide +kernel
theorem dX1_takeAway_21 : decode cX1_takeAway 21 = .ok (.getstatic 103, 3) := by decide +kernel
theorem dX1_takeAway_24 : decode cX1_takeAway 24 = .ok (.iload_n 2, 1) := by decide +kernel
theorem dX1_takeAway_25 : decode cX1_takeAway 25 = .ok (.iaload, 1) := by decide +kernel
theorem dX1_takeAway_26 : decode cX1_takeAway 26 = .ok (.if_icmp .ge 25, 3) := by decide +kernel
theorem dX1_takeAway_29 : decode cX1_takeAway 29 = .ok (.aload_n 0, 1) := by decide +kernel
theorem dX1_takeAway_30 : decode cX1_takeAway 30 = .ok (.getfield 60, 3) := by decide +kernel
theorem dX1_takeAway_33 : decode cX1_takeAway 33 = .ok (.iload_n 1, 1) := by decide +kernel
theorem dX1_takeAway_34 : decode cX1_takeAway 34 = .ok (.aload_n 0, 1) := by decide +kernel
theorem dX1_takeAway_35 : decode cX1_takeAway 35 = .ok (.aload_n 0, 1) := by decide +kernel
theorem dX1_takeAway_36 : decode cX1_takeAway 36 = .ok (.getfield 60, 3) := by decide +kernel
theorem dX1_takeAway_39 : decode cX1_takeAway 39 = .ok (.iload_n 1, 1) := by decide +kernel
theorem dX1_takeAway_40 : decode cX1_takeAway 40 = .ok (.iaload, 1) := by decide +kernel
theorem dX1_takeAway_41 : decode cX1_takeAway 41 = .ok (.invokevirtual 110, 3) := by decide +kernel
theorem dX1_takeAway_44 : decode cX1_takeAway 44 = .ok (.iastore, 1) := by decide +kernel
theorem dX1_takeAway_45 : decode cX1_takeAway 45 = .ok (.iinc 1 1, 3) := by decide +kernel
theorem dX1_takeAway_48 : decode cX1_takeAway 48 = .ok (.goto (-28), 3) := by decide +kernel
theorem dX1_takeAway_51 : decode cX1_takeAway 51 = .ok (.iinc 2 1, 3) := by decide +kernel
theorem dX1_takeAway_54 : decode cX1_takeAway 54 = .ok (.goto (-50), 3) := by decide +kernel
theorem dX1_takeAway_57 : decode cX1_takeAway 57 = .ok (.return_, 1) := by decide +kernel
theorem dX1_left_0 : decode cX1_left 0 = .ok (.iload_n 1, 1) := by decide +kernel
theorem dX1_left_1 : decode cX1_left 1 = .ok (.istore_n 2, 1) := by decide +kernel
theorem dX1_left_2 : decode cX1_left 2 = .ok (.iload_n 1, 1) := by decide +kernel
theorem dX1_left_3 : decode cX1_left 3 = .ok (.istore_n 3, 1) := by decide +kernel
theorem dX1_left_4 : decode cX1_left 4 = .ok (.iconst 0, 1) := by decide +kernel
theorem dX1_left_5 : decode cX1_left 5 = .ok (.istore 4, 2) := by decide +kernel
theorem dX1_left_7 : decode cX1_left 7 = .ok (.iload 4, 2) := by decide +kernel
theorem dX1_left_9 : decode cX1_left 9 = .ok (.bipush 8, 2) := by decide +kernel
theorem dX1_left_11 : decode cX1_left 11 = .ok (.if_icmp .ge 64, 3) := by decide +kernel
theorem dX1_left_14 : decode cX1_left 14 = .ok (.aload_n 0, 1) := by decide +kernel
theorem dX1_left_15 : decode cX1_left 15 = .ok (.getfield 28, 3) := by decide +kernel
theorem dX1_left_18 : decode cX1_left 18 = .ok (.getfield 114, 3) := by decide +kernel
theorem dX1_left_21 : decode cX1_left 21 = .ok (.iload 4, 2) := by decide +kernel
theorem dX1_left_23 : decode cX1_left 23 = .ok (.iaload, 1) := by decide +kernel
theorem dX1_left_24 : decode cX1_left 24 = .ok (.istore 5, 2) := by decide +kernel
theorem dX1_left_26 : decode cX1_left 26 = .ok (.aload_n 0, 1) := by decide +kernel
theorem dX1_left_27 : decode cX1_left 27 = .ok (.getfield 64, 3) := by decide +kernel
theorem dX1_left_30 : decode cX1_left 30 = .ok (.iload 4, 2) := by decide +kernel
theorem dX1_left_32 : decode cX1_left 32 = .ok (.iaload, 1) := by decide +kernel
theorem dX1_left_33 : decode cX1_left 33 = .ok (.istore 6, 2) := by decide +kernel
theorem dX1_left_35 : decode cX1_left 35 = .ok (.aload_n 0, 1) := by decide +kernel
theorem dX1_left_36 : decode cX1_left 36 = .ok (.getfield 64, 3) := by decide +kernel
theorem dX1_left_39 : decode cX1_left 39 = .ok (.iload 4, 2) := by decide +kernel
theorem dX1_left_41 : decode cX1_left 41 = .ok (.iload_n 3, 1) := by decide +kernel
theorem dX1_left_42 : decode cX1_left 42 = .ok (.iastore, 1) := by decide +kernel
theorem dX1_left_43 : decode cX1_left 43 = .ok (.iload 6, 2) := by decide +kernel
theorem dX1_left_45 : decode cX1_left 45 = .ok (.iload 5, 2) := by decide +kernel
theorem dX1_left_47 : decode cX1_left 47 = .ok (.iload_n 2, 1) := by decide +kernel
theorem dX1_left_48 : decode cX1_left 48 = .ok (.invokestatic 117, 3) := by decide +kernel
theorem dX1_left_51 : decode cX1_left 51 = .ok (.iadd, 1) := by decide +kernel
theorem dX1_left_52 : decode cX1_left 52 = .ok (.invokestatic 123, 3) := by decide +kernel
theorem dX1_left_55 : decode cX1_left 55 = .ok (.istore_n 3, 1) := by decide +kernel
theorem dX1_left_56 : decode cX1_left 56 = .ok (.iload_n 2, 1) := by decide +kernel
theorem dX1_left_57 : decode cX1_left 57 = .ok (.iload 5, 2) := by decide +kernel
theorem dX1_left_59 : decode cX1_left 59 = .ok (.iload 6, 2) := by decide +kernel
theorem dX1_left_61 : decode cX1_left 61 = .ok (.invokestatic 117, 3) := by decide +kernel
theorem dX1_left_64 : decode cX1_left 64 = .ok (.iadd, 1) := by decide +kernel
theorem dX1_left_65 : decode cX1_left 65 = .ok (.invokestatic 123, 3) := by decide +kernel
theorem dX1_left_68 : decode cX1_left 68 = .ok (.istore_n 2, 1) := by decide +kernel
theorem dX1_left_69 : decode cX1_left 69 = .ok (.iinc 4 1, 3) := by decide +kernel
theorem dX1_left_72 : decode cX1_left 72 = .ok (.goto (-65), 3) := by decide +kernel
theorem dX1_left_75 : decode cX1_left 75 = .ok (.iload_n 2, 1) := by decide +kernel
theorem dX1_left_76 : decode cX1_left 76 = .ok (.ireturn, 1) := by decide +kernel
theorem dX1_describePart_0 : decode cX1_describePart 0 = .ok (.bipush 8, 2) := by decide +kernel
theorem dX1_describePart_2 : decode cX1_describePart 2 = .ok (.bipush 17, 2) := by decide +kernel
theorem dX1_describePart_4 : decode cX1_describePart 4 = .ok (.iload_n 1, 1) := by decide +kernel
theorem dX1_describePart_5 : decode cX1_describePart 5 = .ok (.imul, 1) := by decide +kernel
theorem dX1_describePart_6 : decode cX1_describePart 6 = .ok (.iadd, 1) := by decide +kernel
theorem dX1_describePart_7 : decode cX1_describePart 7 = .ok (.istore_n 3, 1) := by decide +kernel
theorem dX1_describePart_8 : decode cX1_describePart 8 = .ok (.aload_n 0, 1) := by decide +kernel
theorem dX1_describePart_9 : decode cX1_describePart 9 = .ok (.getfield 42, 3) := by decide +kernel
theorem dX1_describePart_12 : decode cX1_describePart 12 = .ok (.aload_n 0, 1) := by decide +kernel
theorem dX1_describePart_13 : decode cX1_describePart 13 = .ok (.getfield 60, 3) := by decide +kernel
theorem dX1_describePart_16 : decode cX1_describePart 16 = .ok (.iload_n 1, 1) := by decide +kernel
theorem dX1_describePart_17 : decode cX1_describePart 17 = .ok (.aload_n 0, 1) := by decide +kernel
theorem dX1_describePart_18 : decode cX1_describePart 18 = .ok (.getfield 35, 3) := by decide +kernel
theorem dX1_describePart_21 : decode cX1_describePart 21 = .ok (.invokevirtual 126, 3) := by decide +kernel
theorem dX1_describePart_24 : decode cX1_describePart 24 = .ok (.aload_n 0, 1) := by decide +kernel
theorem dX1_describePart_25 : decode cX1_describePart 25 = .ok (.getfield 35, 3) := by decide +kernel
theorem dX1_describePart_28 : decode cX1_describePart 28 = .ok (.iload_n 1, 1) := by decide +kernel
theorem dX1_describePart_29 : decode cX1_describePart 29 = .ok (.aload_n 0, 1) := by decide +kernel
theorem dX1_describePart_30 : decode cX1_describePart 30 = .ok (.getfield 42, 3) := by decide +kernel
theorem dX1_describePart_33 : decode cX1_describePart 33 = .ok (.getfield 130, 3) := by decide +kernel
theorem dX1_describePart_36 : decode cX1_describePart 36 = .ok (.aload_n 0, 1) := by decide +kernel
theorem dX1_describePart_37 : decode cX1_describePart 37 = .ok (.getfield 42, 3) := by decide +kernel
theorem dX1_describePart_40 : decode cX1_describePart 40 = .ok (.getfield 133, 3) := by decide +kernel
theorem dX1_describePart_43 : decode cX1_describePart 43 = .ok (.invokevirtual 136, 3) := by decide +kernel
theorem dX1_describePart_46 : decode cX1_describePart 46 = .ok (.aload_n 0, 1) := by decide +kernel
theorem dX1_describePart_47 : decode cX1_describePart 47 = .ok (.getfield 49, 3) := by decide +kernel
theorem dX1_describePart_50 : decode cX1_describePart 50 = .ok (.aload_n 0, 1) := by decide +kernel
theorem dX1_describePart_51 : decode cX1_describePart 51 = .ok (.getfield 60, 3) := by decide +kernel
theorem dX1_describePart_54 : decode cX1_describePart 54 = .ok (.iload_n 1, 1) := by decide +kernel
theorem dX1_describePart_55 : decode cX1_describePart 55 = .ok (.aload_n 0, 1) := by decide +kernel
theorem dX1_describePart_56 : decode cX1_describePart 56 = .ok (.getfield 35, 3) := by decide +kernel
theorem dX1_describePart_59 : decode cX1_describePart 59 = .ok (.getfield 140, 3) := by decide +kernel
theorem dX1_describePart_62 : decode cX1_describePart 62 = .ok (.invokevirtual 143, 3) := by decide +kernel
theorem dX1_describePart_65 : decode cX1_describePart 65 = .ok (.aload_n 2, 1) := by decide +kernel
theorem dX1_describePart_66 : decode cX1_describePart 66 = .ok (.iload_n 3, 1) := by decide +kernel
theorem dX1_describePart_67 : decode cX1_describePart 67 = .ok (.aload_n 0, 1) := by decide +kernel
theorem dX1_describePart_68 : decode cX1_describePart 68 = .ok (.getfield 42, 3) := by decide +kernel
theorem dX1_describePart_71 : decode cX1_describePart 71 = .ok (.getfield 130, 3) := by decide +kernel
theorem dX1_describePart_74 : decode cX1_describePart 74 = .ok (.iastore, 1) := by decide +kernel
theorem dX1_describePart_75 : decode cX1_describePart 75 = .ok (.aload_n 2, 1) := by decide +kernel
theorem dX1_describePart_76 : decode cX1_describePart 76 = .ok (.iload_n 3, 1) := by decide +kernel
theorem dX1_describePart_77 : decode cX1_describePart 77 = .ok (.iconst 1, 1) := by decide +kernel
theorem dX1_describePart_78 : decode cX1_describePart 78 = .ok (.iadd, 1) := by decide +kernel
theorem dX1_describePart_79 : decode cX1_describePart 79 = .ok (.aload_n 0, 1) := by decide +kernel
theorem dX1_describePart_80 : decode cX1_describePart 80 = .ok (.getfield 42, 3) := by decide +kernel
theorem dX1_describePart_83 : decode cX1_describePart 83 = .ok (.getfield 133, 3) := by decide +kernel
theorem dX1_describePart_86 : decode cX1_describePart 86 = .ok (.iastore, 1) := by decide +kernel
theorem dX1_describePart_87 : decode cX1_describePart 87 = .ok (.aload_n 2, 1) := by decide +kernel
theorem dX1_describePart_88 : decode cX1_describePart 88 = .ok (.iload_n 3, 1) := by decide +kernel
theorem dX1_describePart_89 : decode cX1_describePart 89 = .ok (.iconst 2, 1) := by decide +kernel
theorem dX1_describePart_90 : decode cX1_describePart 90 = .ok (.iadd, 1) := by decide +kernel
theorem dX1_describePart_91 : decode cX1_describePart 91 = .ok (.aload_n 0, 1) := by decide +kernel
theorem dX1_describePart_92 : decode cX1_describePart 92 = .ok (.getfield 49, 3) := by decide +kernel
theorem dX1_describePart_95 : decode cX1_describePart 95 = .ok (.getfield 147, 3) := by decide +kernel
theorem dX1_describePart_98 : decode cX1_describePart 98 = .ok (.iastore, 1) := by decide +kernel
theorem dX1_describePart_99 : decode cX1_describePart 99 = .ok (.aload_n 2, 1) := by decide +kernel
theorem dX1_describePart_100 : decode cX1_describePart 100 = .ok (.iload_n 3, 1) := by decide +kernel
theorem dX1_describePart_101 : decode cX1_describePart 101 = .ok (.iconst 3, 1) := by decide +kernel
theorem dX1_describePart_102 : decode cX1_describePart 102 = .ok (.iadd, 1) := by decide +kernel
theorem dX1_describePart_103 : decode cX1_describePart 103 = .ok (.aload_n 0, 1) := by decide +kernel
theorem dX1_describePart_104 : decode cX1_describePart 104 = .ok (.getfield 49, 3) := by decide +kernel
theorem dX1_describePart_107 : decode cX1_describePart 107 = .ok (.getfield 150, 3) := by decide +kernel
theorem dX1_describePart_110 : decode cX1_describePart 110 = .ok (.iastore, 1) := by decide +kernel
theorem dX1_describePart_111 : decode cX1_describePart 111 = .ok (.aload_n 0, 1) := by decide +kernel
theorem dX1_describePart_112 : decode cX1_describePart 112 = .ok (.getfield 56, 3) := by decide +kernel
theorem dX1_describePart_115 : decode cX1_describePart 115 = .ok (.aload_n 0, 1) := by decide +kernel
theorem dX1_describePart_116 : decode cX1_describePart 116 = .ok (.getfield 49, 3) := by decide +kernel
theorem dX1_describePart_119 : decode cX1_describePart 119 = .ok (.getfield 150, 3) := by decide +kernel
theorem dX1_describePart_122 : decode cX1_describePart 122 = .ok (.invokevirtual 153, 3) := by decide +kernel
theorem dX1_describePart_125 : decode cX1_describePart 125 = .ok (.iconst 0, 1) := by decide +kernel
theorem dX1_describePart_126 : decode cX1_describePart 126 = .ok (.istore 4, 2) := by decide +kernel
theorem dX1_describePart_128 : decode cX1_describePart 128 = .ok (.iload 4, 2) := by decide +kernel
theorem dX1_describePart_130 : decode cX1_describePart 130 = .ok (.bipush 13, 2) := by decide +kernel
theorem dX1_describePart_132 : decode cX1_describePart 132 = .ok (.if_icmp .ge 44, 3) := by decide +kernel
theorem dX1_describePart_135 : decode cX1_describePart 135 = .ok (.aload_n 2, 1) := by decide +kernel
theorem dX1_describePart_136 : decode cX1_describePart 136 = .ok (.iload_n 3, 1) := by decide +kernel
theorem dX1_describePart_137 : decode cX1_describePart 137 = .ok (.iconst 4, 1) := by decide +kernel
theorem dX1_describePart_138 : decode cX1_describePart 138 = .ok (.iadd, 1) := by decide +kernel
theorem dX1_describePart_139 : decode cX1_describePart 139 = .ok (.iload 4, 2) := by decide +kernel
theorem dX1_describePart_141 : decode cX1_describePart 141 = .ok (.iadd, 1) := by decide +kernel
theorem dX1_describePart_142 : decode cX1_describePart 142 = .ok (.aload_n 0, 1) := by decide +kernel
theorem dX1_describePart_143 : decode cX1_describePart 143 = .ok (.getfield 56, 3) := by decide +kernel
theorem dX1_describePart_146 : decode cX1_describePart 146 = .ok (.aload_n 0, 1) := by decide +kernel
theorem dX1_describePart_147 : decode cX1_describePart 147 = .ok (.getfield 49, 3) := by decide +kernel
theorem dX1_describePart_150 : decode cX1_describePart 150 = .ok (.getfield 156, 3) := by decide +kernel
theorem dX1_describePart_153 : decode cX1_describePart 153 = .ok (.aload_n 0, 1) := by decide +kernel
theorem dX1_describePart_154 : decode cX1_describePart 154 = .ok (.getfield 49, 3) := by decide +kernel
theorem dX1_describePart_157 : decode cX1_describePart 157 = .ok (.getfield 147, 3) := by decide +kernel
theorem dX1_describePart_160 : decode cX1_describePart 160 = .ok (.iconst 3, 1) := by decide +kernel
theorem dX1_describePart_161 : decode cX1_describePart 161 = .ok (.iload 4, 2) := by decide +kernel
theorem dX1_describePart_163 : decode cX1_describePart 163 = .ok (.imul, 1) := by decide +kernel
theorem dX1_describePart_164 : decode cX1_describePart 164 = .ok (.iadd, 1) := by decide +kernel
theorem dX1_describePart_165 : decode cX1_describePart 165 = .ok (.iaload, 1) := by decide +kernel
theorem dX1_describePart_166 : decode cX1_describePart 166 = .ok (.invokevirtual 157, 3) := by decide +kernel
theorem dX1_describePart_169 : decode cX1_describePart 169 = .ok (.iastore, 1) := by decide +kernel
theorem dX1_describePart_170 : decode cX1_describePart 170 = .ok (.iinc 4 1, 3) := by decide +kernel
theorem dX1_describePart_173 : decode cX1_describePart 173 = .ok (.goto (-45), 3) := by decide +kernel
theorem dX1_describePart_176 : decode cX1_describePart 176 = .ok (.aload_n 0, 1) := by decide +kernel
theorem dX1_describePart_177 : decode cX1_describePart 177 = .ok (.getfield 56, 3) := by decide +kernel
theorem dX1_describePart_180 : decode cX1_describePart 180 = .ok (.aload_n 2, 1) := by decide +kernel
theorem dX1_describePart_181 : decode cX1_describePart 181 = .ok (.iload_n 3, 1) := by decide +kernel
theorem dX1_describePart_182 : decode cX1_describePart 182 = .ok (.invokevirtual 160, 3) := by decide +kernel
theorem dX1_describePart_185 : decode cX1_describePart 185 = .ok (.aload_n 0, 1) := by decide +kernel
theorem dX1_describePart_186 : decode cX1_describePart 186 = .ok (.getfield 35, 3) := by decide +kernel
theorem dX1_describePart_189 : decode cX1_describePart 189 = .ok (.iload_n 1, 1) := by decide +kernel
theorem dX1_describePart_190 : decode cX1_describePart 190 = .ok (.aload_n 0, 1) := by decide +kernel
theorem dX1_describePart_191 : decode cX1_describePart 191 = .ok (.getfield 56, 3) := by decide +kernel
theorem dX1_describePart_194 : decode cX1_describePart 194 = .ok (.getfield 163, 3) := by decide +kernel
theorem dX1_describePart_197 : decode cX1_describePart 197 = .ok (.invokevirtual 166, 3) := by decide +kernel
theorem dX1_describePart_200 : decode cX1_describePart 200 = .ok (.return_, 1) := by decide +kernel
theorem dX2_init_0 : decode cX2_init 0 = .ok (.aload_n 0, 1) := by decide +kernel
theorem dX2_init_1 : decode cX2_init 1 = .ok (.invokespecial 3, 3) := by decide +kernel
theorem dX2_init_4 : decode cX2_init 4 = .ok (.aload_n 0, 1) := by decide +kernel
theorem dX2_init_5 : decode cX2_init 5 = .ok (.bipush 8, 2) := by decide +kernel
theorem dX2_init_7 : decode cX2_init 7 = .ok (.newarray .int, 2) := by decide +kernel
theorem dX2_init_9 : decode cX2_init 9 = .ok (.putfield 9, 3) := by decide +kernel
theorem dX2_init_12 : decode cX2_init 12 = .ok (.aload_n 0, 1) := by decide +kernel
theorem dX2_init_13 : decode cX2_init 13 = .ok (.bipush 8, 2) := by decide +kernel
theorem dX2_init_15 : decode cX2_init 15 = .ok (.newarray .int, 2) := by decide +kernel
theorem dX2_init_17 : decode cX2_init 17 = .ok (.putfield 15, 3) := by decide +kernel
theorem dX2_init_20 : decode cX2_init 20 = .ok (.aload_n 0, 1) := by decide +kernel
theorem dX2_init_21 : decode cX2_init 21 = .ok (.bipush 8, 2) := by decide +kernel
theorem dX2_init_23 : decode cX2_init 23 = .ok (.newarray .int, 2) := by decide +kernel
theorem dX2_init_25 : decode cX2_init 25 = .ok (.putfield 18, 3) := by decide +kernel
theorem dX2_init_28 : decode cX2_init 28 = .ok (.return_, 1) := by decide +kernel
theorem dX2_learn_0 : decode cX2_learn 0 = .ok (.iconst 0, 1) := by decide +kernel
theorem dX2_learn_1 : decode cX2_learn 1 = .ok (.istore_n 2, 1) := by decide +kernel
theorem dX2_learn_2 : decode cX2_learn 2 = .ok (.iload_n 2, 1) := by decide +kernel
theorem dX2_learn_3 : decode cX2_learn 3 = .ok (.bipush 8, 2) := by decide +kernel
theorem dX2_learn_5 : decode cX2_learn 5 = .ok (.if_icmp .ge 69, 3) := by decide +kernel
theorem dX2_learn_8 : decode cX2_learn 8 = .ok (.aload_n 0, 1) := by decide +kernel
theorem dX2_learn_9 : decode cX2_learn 9 = .ok (.getfield 15, 3) := by decide +kernel
theorem dX2_learn_12 : decode cX2_learn 12 = .ok (.iload_n 2, 1) := by decide +kernel
theorem dX2_learn_13 : decode cX2_learn 13 = .ok (.aload_n 0, 1) := by decide +kernel
theorem dX2_learn_14 : decode cX2_learn 14 = .ok (.getfield 9, 3) := by decide +kernel
theorem dX2_learn_17 : decode cX2_learn 17 = .ok (.iload_n 2, 1) := by decide +kernel
theorem dX2_learn_18 : decode cX2_learn 18 = .ok (.iaload, 1) := by decide +kernel
theorem dX2_learn_19 : decode cX2_learn 19 = .ok (.iastore, 1) := by decide +kernel
theorem dX2_learn_20 : decode cX2_learn 20 = .ok (.aload_n 1, 1) := by decide +kernel
theorem dX2_learn_21 : decode cX2_learn 21 = .ok (.iload_n 2, 1) := by decide +kernel
theorem dX2_learn_22 : decode cX2_learn 22 = .ok (.iaload, 1) := by decide +kernel
theorem dX2_learn_23 : decode cX2_learn 23 = .ok (.getstatic 21, 3) := by decide +kernel
theorem dX2_learn_26 : decode cX2_learn 26 = .ok (.iload_n 2, 1) := by decide +kernel
theorem dX2_learn_27 : decode cX2_learn 27 = .ok (.iaload, 1) := by decide +kernel
theorem dX2_learn_28 : decode cX2_learn 28 = .ok (.iadd, 1) := by decide +kernel
theorem dX2_learn_29 : decode cX2_learn 29 = .ok (.invokestatic 24, 3) := by decide +kernel
theorem dX2_learn_32 : decode cX2_learn 32 = .ok (.sipush 1024, 3) := by decide +kernel
theorem dX2_learn_35 : decode cX2_learn 35 = .ok (.imul, 1) := by decide +kernel
theorem dX2_learn_36 : decode cX2_learn 36 = .ok (.istore_n 3, 1) := by decide +kernel
theorem dX2_learn_37 : decode cX2_learn 37 = .ok (.aload_n 0, 1) := by decide +kernel
theorem dX2_learn_38 : decode cX2_learn 38 = .ok (.getfield 9, 3) := by decide +kernel
theorem dX2_learn_41 : decode cX2_learn 41 = .ok (.iload_n 2, 1) := by decide +kernel
theorem dX2_learn_42 : decode cX2_learn 42 = .ok (.iconst 2, 1) := by decide +kernel
theorem dX2_learn_43 : decode cX2_learn 43 = .ok (.getstatic 30, 3) := by decide +kernel
theorem dX2_learn_46 : decode cX2_learn 46 = .ok (.iload_n 2, 1) := by decide +kernel
theorem dX2_learn_47 : decode cX2_learn 47 = .ok (.iaload, 1) := by decide +kernel
theorem dX2_learn_48 : decode cX2_learn 48 = .ok (.iload_n 3, 1) := by decide +kernel
theorem dX2_learn_49 : decode cX2_learn 49 = .ok (.iconst 2, 1) := by decide +kernel
theorem dX2_learn_50 : decode cX2_learn 50 = .ok (.getstatic 33, 3) := by decide +kernel
theorem dX2_learn_53 : decode cX2_learn 53 = .ok (.iload_n 2, 1) := by decide +kernel
theorem dX2_learn_54 : decode cX2_learn 54 = .ok (.iaload, 1) := by decide +kernel
theorem dX2_learn_55 : decode cX2_learn 55 = .ok (.imul, 1) := by decide +kernel
theorem dX2_learn_56 : decode cX2_learn 56 = .ok (.isub, 1) := by decide +kernel
theorem dX2_learn_57 : decode cX2_learn 57 = .ok (.invokestatic 24, 3) := by decide +kernel
theorem dX2_learn_60 : decode cX2_learn 60 = .ok (.invokestatic 36, 3) := by decide +kernel
theorem dX2_learn_63 : decode cX2_learn 63 = .ok (.imul, 1) := by decide +kernel
theorem dX2_learn_64 : decode cX2_learn 64 = .ok (.invokestatic 24, 3) := by decide +kernel
theorem dX2_learn_67 : decode cX2_learn 67 = .ok (.iastore, 1) := by decide +kernel
theorem dX2_learn_68 : decode cX2_learn 68 = .ok (.iinc 2 1, 3) := by decide +kernel
theorem dX2_learn_71 : decode cX2_learn 71 = .ok (.goto (-69), 3) := by decide +kernel
theorem dX2_learn_74 : decode cX2_learn 74 = .ok (.return_, 1) := by decide +kernel
theorem dX2_shape_0 : decode cX2_shape 0 = .ok (.iconst 0, 1) := by decide +kernel
theorem dX2_shape_1 : decode cX2_shape 1 = .ok (.istore_n 2, 1) := by decide +kernel
theorem dX2_shape_2 : decode cX2_shape 2 = .ok (.iload_n 2, 1) := by decide +kernel
theorem dX2_shape_3 : decode cX2_shape 3 = .ok (.bipush 8, 2) := by decide +kernel
theorem dX2_shape_5 : decode cX2_shape 5 = .ok (.if_icmp .ge 34, 3) := by decide +kernel
theorem dX2_shape_8 : decode cX2_shape 8 = .ok (.aload_n 0, 1) := by decide +kernel
theorem dX2_shape_9 : decode cX2_shape 9 = .ok (.getfield 18, 3) := by decide +kernel
theorem dX2_shape_12 : decode cX2_shape 12 = .ok (.iload_n 2, 1) := by decide +kernel
theorem dX2_shape_13 : decode cX2_shape 13 = .ok (.iload_n 1, 1) := by decide +kernel
theorem dX2_shape_14 : decode cX2_shape 14 = .ok (.aload_n 0, 1) := by decide +kernel
theorem dX2_shape_15 : decode cX2_shape 15 = .ok (.getfield 15, 3) := by decide +kernel
theorem dX2_shape_18 : decode cX2_shape 18 = .ok (.iload_n 2, 1) := by decide +kernel
theorem dX2_shape_19 : decode cX2_shape 19 = .ok (.iaload, 1) := by decide +kernel
theorem dX2_shape_20 : decode cX2_shape 20 = .ok (.aload_n 0, 1) := by decide +kernel
theorem dX2_shape_21 : decode cX2_shape 21 = .ok (.getfield 9, 3) := by decide +kernel
theorem dX2_shape_24 : decode cX2_shape 24 = .ok (.iload_n 2, 1) := by decide +kernel
theorem dX2_shape_25 : decode cX2_shape 25 = .ok (.iaload, 1) := by decide +kernel
theorem dX2_shape_26 : decode cX2_shape 26 = .ok (.invokestatic 40, 3) := by decide +kernel
theorem dX2_shape_29 : decode cX2_shape 29 = .ok (.invokestatic 44, 3) := by decide +kernel
theorem dX2_shape_32 : decode cX2_shape 32 = .ok (.iastore, 1) := by decide +kernel
theorem dX2_shape_33 : decode cX2_shape 33 = .ok (.iinc 2 1, 3) := by decide +kernel
theorem dX2_shape_36 : decode cX2_shape 36 = .ok (.goto (-34), 3) := by decide +kernel
theorem dX2_shape_39 : decode cX2_shape 39 = .ok (.return_, 1) := by decide +kernel
theorem dX2_forget_0 : decode cX2_forget 0 = .ok (.aload_n 0, 1) := by decide +kernel
theorem dX2_forget_1 : decode cX2_forget 1 = .ok (.getfield 9, 3) := by decide +kernel
theorem dX2_forget_4 : decode cX2_forget 4 = .ok (.iconst 0, 1) := by decide +kernel
theorem dX2_forget_5 : decode cX2_forget 5 = .ok (.invokestatic 47, 3) := by decide +kernel
theorem dX2_forget_8 : decode cX2_forget 8 = .ok (.return_, 1) := by decide +kernel
theorem dX2_between_0 : decode cX2_between 0 = .ok (.iload_n 1, 1) := by decide +kernel
theorem dX2_between_1 : decode cX2_between 1 = .ok (.iconst 2, 1) := by decide +kernel
theorem dX2_between_2 : decode cX2_between 2 = .ok (.ishr, 1) := by decide +kernel
theorem dX2_between_3 : decode cX2_between 3 = .ok (.iload_n 2, 1) := by decide +kernel
theorem dX2_between_4 : decode cX2_between 4 = .ok (.iconst 2, 1) := by decide +kernel
theorem dX2_between_5 : decode cX2_between 5 = .ok (.ishr, 1) := by decide +kernel
theorem dX2_between_6 : decode cX2_between 6 = .ok (.iadd, 1) := by decide +kernel
theorem dX2_between_7 : decode cX2_between 7 = .ok (.invokestatic 24, 3) := by decide +kernel
theorem dX2_between_10 : decode cX2_between 10 = .ok (.istore_n 3, 1) := by decide +kernel
theorem dX2_between_11 : decode cX2_between 11 = .ok (.iload_n 0, 1) := by decide +kernel
theorem dX2_between_12 : decode cX2_between 12 = .ok (.tableswitch 57 0 2 #[28, 37, 48], 28) := by decide +kernel
theorem dX2_between_40 : decode cX2_between 40 = .ok (.iload_n 3, 1) := by decide +kernel
theorem dX2_between_41 : decode cX2_between 41 = .ok (.iload_n 1, 1) := by decide +kernel
theorem dX2_between_42 : decode cX2_between 42 = .ok (.iconst 1, 1) := by decide +kernel
theorem dX2_between_43 : decode cX2_between 43 = .ok (.ishr, 1) := by decide +kernel
theorem dX2_between_44 : decode cX2_between 44 = .ok (.iadd, 1) := by decide +kernel
theorem dX2_between_45 : decode cX2_between 45 = .ok (.invokestatic 24, 3) := by decide +kernel
theorem dX2_between_48 : decode cX2_between 48 = .ok (.ireturn, 1) := by decide +kernel
theorem dX2_between_49 : decode cX2_between 49 = .ok (.iload_n 1, 1) := by decide +kernel
theorem dX2_between_50 : decode cX2_between 50 = .ok (.iconst 1, 1) := by decide +kernel
theorem dX2_between_51 : decode cX2_between 51 = .ok (.ishr, 1) := by decide +kernel
theorem dX2_between_52 : decode cX2_between 52 = .ok (.iload_n 2, 1) := by decide +kernel
theorem dX2_between_53 : decode cX2_between 53 = .ok (.iconst 1, 1) := by decide +kernel
theorem dX2_between_54 : decode cX2_between 54 = .ok (.ishr, 1) := by decide +kernel
theorem dX2_between_55 : decode cX2_between 55 = .ok (.iadd, 1) := by decide +kernel
theorem dX2_between_56 : decode cX2_between 56 = .ok (.invokestatic 24, 3) := by decide +kernel
theorem dX2_between_59 : decode cX2_between 59 = .ok (.ireturn, 1) := by decide +kernel
theorem dX2_between_60 : decode cX2_between 60 = .ok (.iload_n 3, 1) := by decide +kernel
theorem dX2_between_61 : decode cX2_between 61 = .ok (.iload_n 2, 1) := by decide +kernel
theorem dX2_between_62 : decode cX2_between 62 = .ok (.iconst 1, 1) := by decide +kernel
theorem dX2_between_63 : decode cX2_between 63 = .ok (.ishr, 1) := by decide +kernel
theorem dX2_between_64 : decode cX2_between 64 = .ok (.iadd, 1) := by decide +kernel
theorem dX2_between_65 : decode cX2_between 65 = .ok (.invokestatic 24, 3) := by decide +kernel
theorem dX2_between_68 : decode cX2_between 68 = .ok (.ireturn, 1) := by decide +kernel
theorem dX2_between_69 : decode cX2_between 69 = .ok (.iload_n 2, 1) := by decide +kernel
theorem dX2_between_70 : decode cX2_between 70 = .ok (.ireturn, 1) := by decide +kernel
theorem dX2_straight_0 : decode cX2_straight 0 = .ok (.iload_n 0, 1) := by decide +kernel
theorem dX2_straight_1 : decode cX2_straight 1 = .ok (.invokestatic 53, 3) := by decide +kernel
theorem dX2_straight_4 : decode cX2_straight 4 = .ok (.istore_n 1, 1) := by decide +kernel
theorem dX2_straight_5 : decode cX2_straight 5 = .ok (.iload_n 1, 1) := by decide +kernel
theorem dX2_straight_6 : decode cX2_straight 6 = .ok (.sipush 11059, 3) := by decide +kernel
theorem dX2_straight_9 : decode cX2_straight 9 = .ok (.if_icmp .ge 9, 3) := by decide +kernel
theorem dX2_straight_12 : decode cX2_straight 12 = .ok (.iconst 2, 1) := by decide +kernel
theorem dX2_straight_13 : decode cX2_straight 13 = .ok (.iload_n 1, 1) := by decide +kernel
theorem dX2_straight_14 : decode cX2_straight 14 = .ok (.imul, 1) := by decide +kernel
theorem dX2_straight_15 : decode cX2_straight 15 = .ok (.goto 28, 3) := by decide +kernel
theorem dX2_straight_18 : decode cX2_straight 18 = .ok (.iload_n 1, 1) := by decide +kernel
theorem dX2_straight_19 : decode cX2_straight 19 = .ok (.sipush 20070, 3) := by decide +kernel
theorem dX2_straight_22 : decode cX2_straight 22 = .ok (.if_icmp .ge 11, 3) := by decide +kernel
theorem dX2_straight_25 : decode cX2_straight 25 = .ok (.iload_n 1, 1) := by decide +kernel
theorem dX2_straight_26 : decode cX2_straight 26 = .ok (.sipush 11059, 3) := by decide +kernel
theorem dX2_straight_29 : decode cX2_straight 29 = .ok (.iadd, 1) := by decide +kernel
theorem dX2_straight_30 : decode cX2_straight 30 = .ok (.goto 13, 3) := by decide +kernel
theorem dX2_straight_33 : decode cX2_straight 33 = .ok (.iload_n 1, 1) := by decide +kernel
theorem dX2_straight_34 : decode cX2_straight 34 = .ok (.iconst 2, 1) := by decide +kernel
theorem dX2_straight_35 : decode cX2_straight 35 = .ok (.ishr, 1) := by decide +kernel
theorem dX2_straight_36 : decode cX2_straight 36 = .ok (.sipush 26112, 3) := by decide +kernel
theorem dX2_straight_39 : decode cX2_straight 39 = .ok (.iadd, 1) := by decide +kernel
theorem dX2_straight_40 : decode cX2_straight 40 = .ok (.invokestatic 24, 3) := by decide +kernel
theorem dX2_straight_43 : decode cX2_straight 43 = .ok (.istore_n 2, 1) := by decide +kernel
theorem dX2_straight_44 : decode cX2_straight 44 = .ok (.iload_n 0, 1) := by decide +kernel
theorem dX2_straight_45 : decode cX2_straight 45 = .ok (.iload_n 2, 1) := by decide +kernel
theorem dX2_straight_46 : decode cX2_straight 46 = .ok (.invokestatic 56, 3) := by decide +kernel
theorem dX2_straight_49 : decode cX2_straight 49 = .ok (.ireturn, 1) := by decide +kernel
theorem dX3_init_0 : decode cX3_init 0 = .ok (.aload_n 0, 1) := by decide +kernel
theorem dX3_init_1 : decode cX3_init 1 = .ok (.invokespecial 3, 3) := by decide +kernel
theorem dX3_init_4 : decode cX3_init 4 = .ok (.return_, 1) := by decide +kernel
theorem dX3_smooth_0 : decode cX3_smooth 0 = .ok (.iconst 0, 1) := by decide +kernel
theorem dX3_smooth_1 : decode cX3_smooth 1 = .ok (.istore_n 3, 1) := by decide +kernel
theorem dX3_smooth_2 : decode cX3_smooth 2 = .ok (.iload_n 3, 1) := by decide +kernel
theorem dX3_smooth_3 : decode cX3_smooth 3 = .ok (.sipush 160, 3) := by decide +kernel
theorem dX3_smooth_6 : decode cX3_smooth 6 = .ok (.if_icmp .ge 19, 3) := by decide +kernel
theorem dX3_smooth_9 : decode cX3_smooth 9 = .ok (.aload_n 2, 1) := by decide +kernel
theorem dX3_smooth_10 : decode cX3_smooth 10 = .ok (.iload_n 3, 1) := by decide +kernel
theorem dX3_smooth_11 : decode cX3_smooth 11 = .ok (.aload_n 0, 1) := by decide +kernel
theorem dX3_smooth_12 : decode cX3_smooth 12 = .ok (.aload_n 1, 1) := by decide +kernel
theorem dX3_smooth_13 : decode cX3_smooth 13 = .ok (.iload_n 3, 1) := by decide +kernel
theorem dX3_smooth_14 : decode cX3_smooth 14 = .ok (.iaload, 1) := by decide +kernel
theorem dX3_smooth_15 : decode cX3_smooth 15 = .ok (.invokevirtual 9, 3) := by decide +kernel
theorem dX3_smooth_18 : decode cX3_smooth 18 = .ok (.iastore, 1) := by decide +kernel
theorem dX3_smooth_19 : decode cX3_smooth 19 = .ok (.iinc 3 1, 3) := by decide +kernel
theorem dX3_smooth_22 : decode cX3_smooth 22 = .ok (.goto (-20), 3) := by decide +kernel
theorem dX3_smooth_25 : decode cX3_smooth 25 = .ok (.return_, 1) := by decide +kernel
theorem dX3_goingOn_0 : decode cX3_goingOn 0 = .ok (.iload_n 1, 1) := by decide +kernel
theorem dX3_goingOn_1 : decode cX3_goingOn 1 = .ok (.ifCond .ne 10, 3) := by decide +kernel
theorem dX3_goingOn_4 : decode cX3_goingOn 4 = .ok (.aload_n 0, 1) := by decide +kernel
theorem dX3_goingOn_5 : decode cX3_goingOn 5 = .ok (.getfield 15, 3) := by decide +kernel
theorem dX3_goingOn_8 : decode cX3_goingOn 8 = .ok (.goto 19, 3) := by decide +kernel
theorem dX3_goingOn_11 : decode cX3_goingOn 11 = .ok (.iload_n 1, 1) := by decide +kernel
theorem dX3_goingOn_12 : decode cX3_goingOn 12 = .ok (.iconst 1, 1) := by decide +kernel
theorem dX3_goingOn_13 : decode cX3_goingOn 13 = .ok (.if_icmp .ne 10, 3) := by decide +kernel
theorem dX3_goingOn_16 : decode cX3_goingOn 16 = .ok (.aload_n 0, 1) := by decide +kernel
theorem dX3_goingOn_17 : decode cX3_goingOn 17 = .ok (.getfield 19, 3) := by decide +kernel
theorem dX3_goingOn_20 : decode cX3_goingOn 20 = .ok (.goto 7, 3) := by decide +kernel
theorem dX3_goingOn_23 : decode cX3_goingOn 23 = .ok (.aload_n 0, 1) := by decide +kernel
theorem dX3_goingOn_24 : decode cX3_goingOn 24 = .ok (.getfield 22, 3) := by decide +kernel
theorem dX3_goingOn_27 : decode cX3_goingOn 27 = .ok (.ireturn, 1) := by decide +kernel
theorem dX3_forget_0 : decode cX3_forget 0 = .ok (.aload_n 0, 1) := by decide +kernel
theorem dX3_forget_1 : decode cX3_forget 1 = .ok (.iconst 0, 1) := by decide +kernel
theorem dX3_forget_2 : decode cX3_forget 2 = .ok (.putfield 15, 3) := by decide +kernel
theorem dX3_forget_5 : decode cX3_forget 5 = .ok (.aload_n 0, 1) := by decide +kernel
theorem dX3_forget_6 : decode cX3_forget 6 = .ok (.iconst 0, 1) := by decide +kernel
theorem dX3_forget_7 : decode cX3_forget 7 = .ok (.putfield 19, 3) := by decide +kernel
theorem dX3_forget_10 : decode cX3_forget 10 = .ok (.aload_n 0, 1) := by decide +kernel
theorem dX3_forget_11 : decode cX3_forget 11 = .ok (.iconst 0, 1) := by decide +kernel
theorem dX3_forget_12 : decode cX3_forget 12 = .ok (.putfield 22, 3) := by decide +kernel
theorem dX3_forget_15 : decode cX3_forget 15 = .ok (.return_, 1) := by decide +kernel
theorem dX3_next_0 : decode cX3_next 0 = .ok (.iload_n 1, 1) := by decide +kernel
theorem dX3_next_1 : decode cX3_next 1 = .ok (.iconst 3, 1) := by decide +kernel
theorem dX3_next_2 : decode cX3_next 2 = .ok (.ishr, 1) := by decide +kernel
theorem dX3_next_3 : decode cX3_next 3 = .ok (.iconst 2, 1) := by decide +kernel
theorem dX3_next_4 : decode cX3_next 4 = .ok (.ishl, 1) := by decide +kernel
theorem dX3_next_5 : decode cX3_next 5 = .ok (.istore_n 2, 1) := by decide +kernel
theorem dX3_next_6 : decode cX3_next 6 = .ok (.iload_n 2, 1) := by decide +kernel
theorem dX3_next_7 : decode cX3_next 7 = .ok (.aload_n 0, 1) := by decide +kernel
theorem dX3_next_8 : decode cX3_next 8 = .ok (.getfield 15, 3) := by decide +kernel
theorem dX3_next_11 : decode cX3_next 11 = .ok (.isub, 1) := by decide +kernel
theorem dX3_next_12 : decode cX3_next 12 = .ok (.i2l, 1) := by decide +kernel
theorem dX3_next_13 : decode cX3_next 13 = .ok (.ldc2_w 25, 3) := by decide +kernel
theorem dX3_next_16 : decode cX3_next 16 = .ok (.lmul, 1) := by decide +kernel
theorem dX3_next_17 : decode cX3_next 17 = .ok (.lstore_n 3, 1) := by decide +kernel
theorem dX3_next_18 : decode cX3_next 18 = .ok (.aload_n 0, 1) := by decide +kernel
theorem dX3_next_19 : decode cX3_next 19 = .ok (.iload_n 2, 1) := by decide +kernel
theorem dX3_next_20 : decode cX3_next 20 = .ok (.putfield 15, 3) := by decide +kernel
theorem dX3_next_23 : decode cX3_next 23 = .ok (.aload_n 0, 1) := by decide +kernel
theorem dX3_next_24 : decode cX3_next 24 = .ok (.getfield 19, 3) := by decide +kernel
theorem dX3_next_27 : decode cX3_next 27 = .ok (.bipush 15, 2) := by decide +kernel
theorem dX3_next_29 : decode cX3_next 29 = .ok (.ishr, 1) := by decide +kernel
theorem dX3_next_30 : decode cX3_next 30 = .ok (.istore 5, 2) := by decide +kernel
theorem dX3_next_32 : decode cX3_next 32 = .ok (.aload_n 0, 1) := by decide +kernel
theorem dX3_next_33 : decode cX3_next 33 = .ok (.getfield 19, 3) := by decide +kernel
theorem dX3_next_36 : decode cX3_next 36 = .ok (.iload 5, 2) := by decide +kernel
theorem dX3_next_38 : decode cX3_next 38 = .ok (.ldc 27, 2) := by decide +kernel
theorem dX3_next_40 : decode cX3_next 40 = .ok (.imul, 1) := by decide +kernel
theorem dX3_next_41 : decode cX3_next 41 = .ok (.isub, 1) := by decide +kernel
theorem dX3_next_42 : decode cX3_next 42 = .ok (.istore 6, 2) := by decide +kernel
theorem dX3_next_44 : decode cX3_next 44 = .ok (.aload_n 0, 1) := by decide +kernel
theorem dX3_next_45 : decode cX3_next 45 = .ok (.iload 5, 2) := by decide +kernel
theorem dX3_next_47 : decode cX3_next 47 = .ok (.i2l, 1) := by decide +kernel
theorem dX3_next_48 : decode cX3_next 48 = .ok (.ldc2_w 28, 3) := by decide +kernel
theorem dX3_next_51 : decode cX3_next 51 = .ok (.lmul, 1) := by decide +kernel
theorem dX3_next_52 : decode cX3_next 52 = .ok (.lload_n 3, 1) := by decide +kernel
theorem dX3_next_53 : decode cX3_next 53 = .ok (.ladd, 1) := by decide +kernel
theorem dX3_next_54 : decode cX3_next 54 = .ok (.iload 6, 2) := by decide +kernel
theorem dX3_next_56 : decode cX3_next 56 = .ok (.sipush 32735, 3) := by decide +kernel
theorem dX3_next_59 : decode cX3_next 59 = .ok (.invokestatic 30, 3) := by decide +kernel
theorem dX3_next_62 : decode cX3_next 62 = .ok (.i2l, 1) := by decide +kernel
theorem dX3_next_63 : decode cX3_next 63 = .ok (.ladd, 1) := by decide +kernel
theorem dX3_next_64 : decode cX3_next 64 = .ok (.invokestatic 36, 3) := by decide +kernel
theorem dX3_next_67 : decode cX3_next 67 = .ok (.putfield 19, 3) := by decide +kernel
theorem dX3_next_70 : decode cX3_next 70 = .ok (.aload_n 0, 1) := by decide +kernel
theorem dX3_next_71 : decode cX3_next 71 = .ok (.getfield 19, 3) := by decide +kernel
theorem dX3_next_74 : decode cX3_next 74 = .ok (.i2l, 1) := by decide +kernel
theorem dX3_next_75 : decode cX3_next 75 = .ok (.ldc2_w 40, 3) := by decide +kernel
theorem dX3_next_78 : decode cX3_next 78 = .ok (.ladd, 1) := by decide +kernel
theorem dX3_next_79 : decode cX3_next 79 = .ok (.invokestatic 36, 3) := by decide +kernel
theorem dX3_next_82 : decode cX3_next 82 = .ok (.bipush 15, 2) := by decide +kernel
theorem dX3_next_84 : decode cX3_next 84 = .ok (.ishr, 1) := by decide +kernel
theorem dX3_next_85 : decode cX3_next 85 = .ok (.invokestatic 42, 3) := by decide +kernel
theorem dX3_next_88 : decode cX3_next 88 = .ok (.istore 7, 2) := by decide +kernel
theorem dX3_next_90 : decode cX3_next 90 = .ok (.iload 7, 2) := by decide +kernel
theorem dX3_next_92 : decode cX3_next 92 = .ok (.aload_n 0, 1) := by decide +kernel
theorem dX3_next_93 : decode cX3_next 93 = .ok (.getfield 22, 3) := by decide +kernel
theorem dX3_next_96 : decode cX3_next 96 = .ok (.sipush (-28180), 3) := by decide +kernel
theorem dX3_next_99 : decode cX3_next 99 = .ok (.invokestatic 30, 3) := by decide +kernel
theorem dX3_next_102 : decode cX3_next 102 = .ok (.iadd, 1) := by decide +kernel
theorem dX3_next_103 : decode cX3_next 103 = .ok (.invokestatic 42, 3) := by decide +kernel
theorem dX3_next_106 : decode cX3_next 106 = .ok (.istore 8, 2) := by decide +kernel
theorem dX3_next_108 : decode cX3_next 108 = .ok (.aload_n 0, 1) := by decide +kernel
theorem dX3_next_109 : decode cX3_next 109 = .ok (.iload 7, 2) := by decide +kernel
theorem dX3_next_111 : decode cX3_next 111 = .ok (.putfield 22, 3) := by decide +kernel
theorem dX3_next_114 : decode cX3_next 114 = .ok (.iload 8, 2) := by decide +kernel
theorem dX3_next_116 : decode cX3_next 116 = .ok (.ireturn, 1) := by decide +kernel
theorem dX3_nearestInt_0 : decode cX3_nearestInt 0 = .ok (.lload_n 0, 1) := by decide +kernel
theorem dX3_nearestInt_1 : decode cX3_nearestInt 1 = .ok (.ldc2_w 45, 3) := by decide +kernel
theorem dX3_nearestInt_4 : decode cX3_nearestInt 4 = .ok (.lcmp, 1) := by decide +kernel
theorem dX3_nearestInt_5 : decode cX3_nearestInt 5 = .ok (.ifCond .ge 9, 3) := by decide +kernel
theorem dX3_nearestInt_8 : decode cX3_nearestInt 8 = .ok (.ldc2_w 45, 3) := by decide +kernel
theorem dX3_nearestInt_11 : decode cX3_nearestInt 11 = .ok (.goto 4, 3) := by decide +kernel
theorem dX3_nearestInt_14 : decode cX3_nearestInt 14 = .ok (.lload_n 0, 1) := by decide +kernel
theorem dX3_nearestInt_15 : decode cX3_nearestInt 15 = .ok (.lstore_n 2, 1) := by decide +kernel
theorem dX3_nearestInt_16 : decode cX3_nearestInt 16 = .ok (.lload_n 2, 1) := by decide +kernel
theorem dX3_nearestInt_17 : decode cX3_nearestInt 17 = .ok (.ldc2_w 47, 3) := by decide +kernel
theorem dX3_nearestInt_20 : decode cX3_nearestInt 20 = .ok (.lcmp, 1) := by decide +kernel
theorem dX3_nearestInt_21 : decode cX3_nearestInt 21 = .ok (.ifCond .le 9, 3) := by decide +kernel
theorem dX3_nearestInt_24 : decode cX3_nearestInt 24 = .ok (.ldc2_w 47, 3) := by decide +kernel
theorem dX3_nearestInt_27 : decode cX3_nearestInt 27 = .ok (.goto 4, 3) := by decide +kernel
theorem dX3_nearestInt_30 : decode cX3_nearestInt 30 = .ok (.lload_n 2, 1) := by decide +kernel
theorem dX3_nearestInt_31 : decode cX3_nearestInt 31 = .ok (.l2i, 1) := by decide +kernel
theorem dX3_nearestInt_32 : decode cX3_nearestInt 32 = .ok (.ireturn, 1) := by decide +kernel
theorem dX4_cut_0 : decode cX4_cut 0 = .ok (.iload_n 0, 1) := by decide +kernel
theorem dX4_cut_1 : decode cX4_cut 1 = .ok (.sipush (-32768), 3) := by decide +kernel
theorem dX4_cut_4 : decode cX4_cut 4 = .ok (.if_icmp .ge 9, 3) := by decide +kernel
theorem dX4_cut_7 : decode cX4_cut 7 = .ok (.sipush (-32768), 3) := by decide +kernel
theorem dX4_cut_10 : decode cX4_cut 10 = .ok (.goto 17, 3) := by decide +kernel
theorem dX4_cut_13 : decode cX4_cut 13 = .ok (.iload_n 0, 1) := by decide +kernel
theorem dX4_cut_14 : decode cX4_cut 14 = .ok (.sipush 32767, 3) := by decide +kernel
theorem dX4_cut_17 : decode cX4_cut 17 = .ok (.if_icmp .le 9, 3) := by decide +kernel
theorem dX4_cut_20 : decode cX4_cut 20 = .ok (.sipush 32767, 3) := by decide +kernel
theorem dX4_cut_23 : decode cX4_cut 23 = .ok (.goto 4, 3) := by decide +kernel
theorem dX4_cut_26 : decode cX4_cut 26 = .ok (.iload_n 0, 1) := by decide +kernel
theorem dX4_cut_27 : decode cX4_cut 27 = .ok (.ireturn, 1) := by decide +kernel
theorem dX4_rounded_0 : decode cX4_rounded 0 = .ok (.iload_n 0, 1) := by decide +kernel
theorem dX4_rounded_1 : decode cX4_rounded 1 = .ok (.iload_n 1, 1) := by decide +kernel
theorem dX4_rounded_2 : decode cX4_rounded 2 = .ok (.imul, 1) := by decide +kernel
theorem dX4_rounded_3 : decode cX4_rounded 3 = .ok (.sipush 16384, 3) := by decide +kernel
theorem dX4_rounded_6 : decode cX4_rounded 6 = .ok (.iadd, 1) := by decide +kernel
theorem dX4_rounded_7 : decode cX4_rounded 7 = .ok (.bipush 15, 2) := by decide +kernel
theorem dX4_rounded_9 : decode cX4_rounded 9 = .ok (.ishr, 1) := by decide +kernel
theorem dX4_rounded_10 : decode cX4_rounded 10 = .ok (.invokestatic 9, 3) := by decide +kernel
theorem dX4_rounded_13 : decode cX4_rounded 13 = .ok (.ireturn, 1) := by decide +kernel
theorem dX4_floored_0 : decode cX4_floored 0 = .ok (.iload_n 0, 1) := by decide +kernel
theorem dX4_floored_1 : decode cX4_floored 1 = .ok (.iload_n 1, 1) := by decide +kernel
theorem dX4_floored_2 : decode cX4_floored 2 = .ok (.imul, 1) := by decide +kernel
theorem dX4_floored_3 : decode cX4_floored 3 = .ok (.bipush 15, 2) := by decide +kernel
theorem dX4_floored_5 : decode cX4_floored 5 = .ok (.ishr, 1) := by decide +kernel
theorem dX4_floored_6 : decode cX4_floored 6 = .ok (.invokestatic 9, 3) := by decide +kernel
theorem dX4_floored_9 : decode cX4_floored 9 = .ok (.ireturn, 1) := by decide +kernel
theorem dX4_size_0 : decode cX4_size 0 = .ok (.iload_n 0, 1) := by decide +kernel
theorem dX4_size_1 : decode cX4_size 1 = .ok (.ifCond .ge 8, 3) := by decide +kernel
theorem dX4_size_4 : decode cX4_size 4 = .ok (.iload_n 0, 1) := by decide +kernel
theorem dX4_size_5 : decode cX4_size 5 = .ok (.ineg, 1) := by decide +kernel
theorem dX4_size_6 : decode cX4_size 6 = .ok (.goto 4, 3) := by decide +kernel
theorem dX4_size_9 : decode cX4_size 9 = .ok (.iload_n 0, 1) := by decide +kernel
theorem dX4_size_10 : decode cX4_size 10 = .ok (.invokestatic 9, 3) := by decide +kernel
theorem dX4_size_13 : decode cX4_size 13 = .ok (.ireturn, 1) := by decide +kernel
theorem dX4_withSignOf_0 : decode cX4_withSignOf 0 = .ok (.iload_n 0, 1) := by decide +kernel
theorem dX4_withSignOf_1 : decode cX4_withSignOf 1 = .ok (.ifCond .ge 8, 3) := by decide +kernel
theorem dX4_withSignOf_4 : decode cX4_withSignOf 4 = .ok (.iload_n 1, 1) := by decide +kernel
theorem dX4_withSignOf_5 : decode cX4_withSignOf 5 = .ok (.ineg, 1) := by decide +kernel
theorem dX4_withSignOf_6 : decode cX4_withSignOf 6 = .ok (.goto 4, 3) := by decide +kernel
theorem dX4_withSignOf_9 : decode cX4_withSignOf 9 = .ok (.iload_n 1, 1) := by decide +kernel
theorem dX4_withSignOf_10 : decode cX4_withSignOf 10 = .ok (.ireturn, 1) := by decide +kernel
theorem dX4_norm_0 : decode cX4_norm 0 = .ok (.iconst 0, 1) := by decide +kernel
theorem dX4_norm_1 : decode cX4_norm 1 = .ok (.istore_n 1, 1) := by decide +kernel
theorem dX4_norm_2 : decode cX4_norm 2 = .ok (.iload_n 0, 1) := by decide +kernel
theorem dX4_norm_3 : decode cX4_norm 3 = .ok (.istore_n 2, 1) := by decide +kernel
theorem dX4_norm_4 : decode cX4_norm 4 = .ok (.iload_n 1, 1) := by decide +kernel
theorem dX4_norm_5 : decode cX4_norm 5 = .ok (.bipush 30, 2) := by decide +kernel
theorem dX4_norm_7 : decode cX4_norm 7 = .ok (.if_icmp .ge 19, 3) := by decide +kernel
theorem dX4_norm_10 : decode cX4_norm 10 = .ok (.iload_n 2, 1) := by decide +kernel
theorem dX4_norm_11 : decode cX4_norm 11 = .ok (.ldc 15, 2) := by decide +kernel
theorem dX4_norm_13 : decode cX4_norm 13 = .ok (.if_icmp .ge 13, 3) := by decide +kernel
theorem dX4_norm_16 : decode cX4_norm 16 = .ok (.iinc 1 1, 3) := by decide +kernel
theorem dX4_norm_19 : decode cX4_norm 19 = .ok (.iload_n 2, 1) := by decide +kernel
theorem dX4_norm_20 : decode cX4_norm 20 = .ok (.iconst 1, 1) := by decide +kernel
theorem dX4_norm_21 : decode cX4_norm 21 = .ok (.ishl, 1) := by decide +kernel
theorem dX4_norm_22 : decode cX4_norm 22 = .ok (.istore_n 2, 1) := by decide +kernel
theorem dX4_norm_23 : decode cX4_norm 23 = .ok (.goto (-19), 3) := by decide +kernel
theorem dX4_norm_26 : decode cX4_norm 26 = .ok (.iload_n 1, 1) := by decide +kernel
theorem dX4_norm_27 : decode cX4_norm 27 = .ok (.ireturn, 1) := by decide +kernel
theorem dX4_greatestSize_0 : decode cX4_greatestSize 0 = .ok (.iconst 0, 1) := by decide +kernel
theorem dX4_greatestSize_1 : decode cX4_greatestSize 1 = .ok (.istore 4, 2) := by decide +kernel
theorem dX4_greatestSize_3 : decode cX4_greatestSize 3 = .ok (.iconst 0, 1) := by decide +kernel
theorem dX4_greatestSize_4 : decode cX4_greatestSize 4 = .ok (.istore 5, 2) := by decide +kernel
theorem dX4_greatestSize_6 : decode cX4_greatestSize 6 = .ok (.iload 5, 2) := by decide +kernel
theorem dX4_greatestSize_8 : decode cX4_greatestSize 8 = .ok (.iload_n 3, 1) := by decide +kernel
theorem dX4_greatestSize_9 : decode cX4_greatestSize 9 = .ok (.if_icmp .ge 38, 3) := by decide +kernel
theorem dX4_greatestSize_12 : decode cX4_greatestSize 12 = .ok (.aload_n 0, 1) := by decide +kernel
theorem dX4_greatestSize_13 : decode cX4_greatestSize 13 = .ok (.iload_n 1, 1) := by decide +kernel
theorem dX4_greatestSize_14 : decode cX4_greatestSize 14 = .ok (.iload_n 2, 1) := by decide +kernel
theorem dX4_greatestSize_15 : decode cX4_greatestSize 15 = .ok (.iload 5, 2) := by decide +kernel
theorem dX4_greatestSize_17 : decode cX4_greatestSize 17 = .ok (.imul, 1) := by decide +kernel
theorem dX4_greatestSize_18 : decode cX4_greatestSize 18 = .ok (.iadd, 1) := by decide +kernel
theorem dX4_greatestSize_19 : decode cX4_greatestSize 19 = .ok (.iaload, 1) := by decide +kernel
theorem dX4_greatestSize_20 : decode cX4_greatestSize 20 = .ok (.invokestatic 16, 3) := by decide +kernel
theorem dX4_greatestSize_23 : decode cX4_greatestSize 23 = .ok (.istore 6, 2) := by decide +kernel
theorem dX4_greatestSize_25 : decode cX4_greatestSize 25 = .ok (.iload 6, 2) := by decide +kernel
theorem dX4_greatestSize_27 : decode cX4_greatestSize 27 = .ok (.iload 4, 2) := by decide +kernel
theorem dX4_greatestSize_29 : decode cX4_greatestSize 29 = .ok (.if_icmp .le 8, 3) := by decide +kernel
theorem dX4_greatestSize_32 : decode cX4_greatestSize 32 = .ok (.iload 6, 2) := by decide +kernel
theorem dX4_greatestSize_34 : decode cX4_greatestSize 34 = .ok (.goto 5, 3) := by decide +kernel
theorem dX4_greatestSize_37 : decode cX4_greatestSize 37 = .ok (.iload 4, 2) := by decide +kernel
theorem dX4_greatestSize_39 : decode cX4_greatestSize 39 = .ok (.istore 4, 2) := by decide +kernel
theorem dX4_greatestSize_41 : decode cX4_greatestSize 41 = .ok (.iinc 5 1, 3) := by decide +kernel
theorem dX4_greatestSize_44 : decode cX4_greatestSize 44 = .ok (.goto (-38), 3) := by decide +kernel
theorem dX4_greatestSize_47 : decode cX4_greatestSize 47 = .ok (.iload 4, 2) := by decide +kernel
theorem dX4_greatestSize_49 : decode cX4_greatestSize 49 = .ok (.ireturn, 1) := by decide +kernel
theorem dX5_init_0 : decode cX5_init 0 = .ok (.aload_n 0, 1) := by decide +kernel
theorem dX5_init_1 : decode cX5_init 1 = .ok (.invokespecial 3, 3) := by decide +kernel
theorem dX5_init_4 : decode cX5_init 4 = .ok (.aload_n 0, 1) := by decide +kernel
theorem dX5_init_5 : decode cX5_init 5 = .ok (.sipush 280, 3) := by decide +kernel
theorem dX5_init_8 : decode cX5_init 8 = .ok (.newarray .int, 2) := by decide +kernel
theorem dX5_init_10 : decode cX5_init 10 = .ok (.putfield 9, 3) := by decide +kernel
theorem dX5_init_13 : decode cX5_init 13 = .ok (.aload_n 0, 1) := by decide +kernel
theorem dX5_init_14 : decode cX5_init 14 = .ok (.bipush 40, 2) := by decide +kernel
theorem dX5_init_16 : decode cX5_init 16 = .ok (.newarray .int, 2) := by decide +kernel
theorem dX5_init_18 : decode cX5_init 18 = .ok (.putfield 15, 3) := by decide +kernel
theorem dX5_init_21 : decode cX5_init 21 = .ok (.return_, 1) := by decide +kernel
theorem dX5_from_0 : decode cX5_from 0 = .ok (.bipush 120, 2) := by decide +kernel
theorem dX5_from_2 : decode cX5_from 2 = .ok (.bipush 40, 2) := by decide +kernel
theorem dX5_from_4 : decode cX5_from 4 = .ok (.iload_n 0, 1) := by decide +kernel
theorem dX5_from_5 : decode cX5_from 5 = .ok (.imul, 1) := by decide +kernel
theorem dX5_from_6 : decode cX5_from 6 = .ok (.iadd, 1) := by decide +kernel
theorem dX5_from_7 : decode cX5_from 7 = .ok (.ireturn, 1) := by decide +kernel
theorem dX5_look_0 : decode cX5_look 0 = .ok (.iconst 0, 1) := by decide +kernel
theorem dX5_look_1 : decode cX5_look 1 = .ok (.istore 4, 2) := by decide +kernel
theorem dX5_look_3 : decode cX5_look 3 = .ok (.iload 4, 2) := by decide +kernel
theorem dX5_look_5 : decode cX5_look 5 = .ok (.bipush 40, 2) := by decide +kernel
theorem dX5_look_7 : decode cX5_look 7 = .ok (.if_icmp .ge 38, 3) := by decide +kernel
theorem dX5_look_10 : decode cX5_look 10 = .ok (.aload_n 0, 1) := by decide +kernel
theorem dX5_look_11 : decode cX5_look 11 = .ok (.getfield 15, 3) := by decide +kernel
theorem dX5_look_14 : decode cX5_look 14 = .ok (.iload 4, 2) := by decide +kernel
theorem dX5_look_16 : decode cX5_look 16 = .ok (.getstatic 18, 3) := by decide +kernel
theorem dX5_look_19 : decode cX5_look 19 = .ok (.iload_n 3, 1) := by decide +kernel
theorem dX5_look_20 : decode cX5_look 20 = .ok (.iaload, 1) := by decide +kernel
theorem dX5_look_21 : decode cX5_look 21 = .ok (.aload_n 0, 1) := by decide +kernel
theorem dX5_look_22 : decode cX5_look 22 = .ok (.getfield 9, 3) := by decide +kernel
theorem dX5_look_25 : decode cX5_look 25 = .ok (.iload_n 1, 1) := by decide +kernel
theorem dX5_look_26 : decode cX5_look 26 = .ok (.invokestatic 21, 3) := by decide +kernel
theorem dX5_look_29 : decode cX5_look 29 = .ok (.iload 4, 2) := by decide +kernel
theorem dX5_look_31 : decode cX5_look 31 = .ok (.iadd, 1) := by decide +kernel
theorem dX5_look_32 : decode cX5_look 32 = .ok (.iload_n 2, 1) := by decide +kernel
theorem dX5_look_33 : decode cX5_look 33 = .ok (.isub, 1) := by decide +kernel
theorem dX5_look_34 : decode cX5_look 34 = .ok (.iaload, 1) := by decide +kernel
theorem dX5_look_35 : decode cX5_look 35 = .ok (.invokestatic 25, 3) := by decide +kernel
theorem dX5_look_38 : decode cX5_look 38 = .ok (.iastore, 1) := by decide +kernel
theorem dX5_look_39 : decode cX5_look 39 = .ok (.iinc 4 1, 3) := by decide +kernel
theorem dX5_look_42 : decode cX5_look 42 = .ok (.goto (-39), 3) := by decide +kernel
theorem dX5_look_45 : decode cX5_look 45 = .ok (.return_, 1) := by decide +kernel
theorem dX5_add_0 : decode cX5_add 0 = .ok (.iconst 0, 1) := by decide +kernel
theorem dX5_add_1 : decode cX5_add 1 = .ok (.istore_n 3, 1) := by decide +kernel
theorem dX5_add_2 : decode cX5_add 2 = .ok (.iload_n 3, 1) := by decide +kernel
theorem dX5_add_3 : decode cX5_add 3 = .ok (.bipush 40, 2) := by decide +kernel
theorem dX5_add_5 : decode cX5_add 5 = .ok (.if_icmp .ge 33, 3) := by decide +kernel
theorem dX5_add_8 : decode cX5_add 8 = .ok (.aload_n 0, 1) := by decide +kernel
theorem dX5_add_9 : decode cX5_add 9 = .ok (.getfield 9, 3) := by decide +kernel
theorem dX5_add_12 : decode cX5_add 12 = .ok (.iload_n 1, 1) := by decide +kernel
theorem dX5_add_13 : decode cX5_add 13 = .ok (.invokestatic 21, 3) := by decide +kernel
theorem dX5_add_16 : decode cX5_add 16 = .ok (.iload_n 3, 1) := by decide +kernel
theorem dX5_add_17 : decode cX5_add 17 = .ok (.iadd, 1) := by decide +kernel
theorem dX5_add_18 : decode cX5_add 18 = .ok (.aload_n 2, 1) := by decide +kernel
theorem dX5_add_19 : decode cX5_add 19 = .ok (.iload_n 3, 1) := by decide +kernel
theorem dX5_add_20 : decode cX5_add 20 = .ok (.iaload, 1) := by decide +kernel
theorem dX5_add_21 : decode cX5_add 21 = .ok (.aload_n 0, 1) := by decide +kernel
theorem dX5_add_22 : decode cX5_add 22 = .ok (.getfield 15, 3) := by decide +kernel
theorem dX5_add_25 : decode cX5_add 25 = .ok (.iload_n 3, 1) := by decide +kernel
theorem dX5_add_26 : decode cX5_add 26 = .ok (.iaload, 1) := by decide +kernel
theorem dX5_add_27 : decode cX5_add 27 = .ok (.iadd, 1) := by decide +kernel
theorem dX5_add_28 : decode cX5_add 28 = .ok (.invokestatic 31, 3) := by decide +kernel
theorem dX5_add_31 : decode cX5_add 31 = .ok (.iastore, 1) := by decide +kernel
theorem dX5_add_32 : decode cX5_add 32 = .ok (.iinc 3 1, 3) := by decide +kernel
theorem dX5_add_35 : decode cX5_add 35 = .ok (.goto (-33), 3) := by decide +kernel
theorem dX5_add_38 : decode cX5_add 38 = .ok (.return_, 1) := by decide +kernel
theorem dX5_endFrame_0 : decode cX5_endFrame 0 = .ok (.aload_n 0, 1) := by decide +kernel
theorem dX5_endFrame_1 : decode cX5_endFrame 1 = .ok (.getfield 9, 3) := by decide +kernel
theorem dX5_endFrame_4 : decode cX5_endFrame 4 = .ok (.sipush 160, 3) := by decide +kernel
theorem dX5_endFrame_7 : decode cX5_endFrame 7 = .ok (.aload_n 0, 1) := by decide +kernel
theorem dX5_endFrame_8 : decode cX5_endFrame 8 = .ok (.getfield 9, 3) := by decide +kernel
theorem dX5_endFrame_11 : decode cX5_endFrame 11 = .ok (.iconst 0, 1) := by decide +kernel
theorem dX5_endFrame_12 : decode cX5_endFrame 12 = .ok (.bipush 120, 2) := by decide +kernel
theorem dX5_endFrame_14 : decode cX5_endFrame 14 = .ok (.invokestatic 34, 3) := by decide +kernel
theorem dX5_endFrame_17 : decode cX5_endFrame 17 = .ok (.return_, 1) := by decide +kernel
theorem dX5_forget_0 : decode cX5_forget 0 = .ok (.aload_n 0, 1) := by decide +kernel
theorem dX5_forget_1 : decode cX5_forget 1 = .ok (.getfield 9, 3) := by decide +kernel
theorem dX5_forget_4 : decode cX5_forget 4 = .ok (.iconst 0, 1) := by decide +kernel
theorem dX5_forget_5 : decode cX5_forget 5 = .ok (.invokestatic 40, 3) := by decide +kernel
theorem dX5_forget_8 : decode cX5_forget 8 = .ok (.return_, 1) := by decide +kernel
theorem dX6_init_0 : decode cX6_init 0 = .ok (.aload_n 0, 1) := by decide +kernel
theorem dX6_init_1 : decode cX6_init 1 = .ok (.invokespecial 3, 3) := by decide +kernel
theorem dX6_init_4 : decode cX6_init 4 = .ok (.aload_n 0, 1) := by decide +kernel
theorem dX6_init_5 : decode cX6_init 5 = .ok (.sipush 160, 3) := by decide +kernel
theorem dX6_init_8 : decode cX6_init 8 = .ok (.newarray .int, 2) := by decide +kernel
theorem dX6_init_10 : decode cX6_init 10 = .ok (.putfield 9, 3) := by decide +kernel
theorem dX6_init_13 : decode cX6_init 13 = .ok (.aload_n 0, 1) := by decide +kernel
theorem dX6_init_14 : decode cX6_init 14 = .ok (.bipush 9, 2) := by decide +kernel
theorem dX6_init_16 : decode cX6_init 16 = .ok (.newarray .int, 2) := by decide +kernel
theorem dX6_init_18 : decode cX6_init 18 = .ok (.putfield 15, 3) := by decide +kernel
theorem dX6_init_21 : decode cX6_init 21 = .ok (.aload_n 0, 1) := by decide +kernel
theorem dX6_init_22 : decode cX6_init 22 = .ok (.bipush 9, 2) := by decide +kernel
theorem dX6_init_24 : decode cX6_init 24 = .ok (.newarray .int, 2) := by decide +kernel
theorem dX6_init_26 : decode cX6_init 26 = .ok (.putfield 18, 3) := by decide +kernel
theorem dX6_init_29 : decode cX6_init 29 = .ok (.aload_n 0, 1) := by decide +kernel
theorem dX6_init_30 : decode cX6_init 30 = .ok (.bipush 9, 2) := by decide +kernel
theorem dX6_init_32 : decode cX6_init 32 = .ok (.newarray .int, 2) := by decide +kernel
theorem dX6_init_34 : decode cX6_init 34 = .ok (.putfield 21, 3) := by decide +kernel
theorem dX6_init_37 : decode cX6_init 37 = .ok (.aload_n 0, 1) := by decide +kernel
theorem dX6_init_38 : decode cX6_init 38 = .ok (.bipush 8, 2) := by decide +kernel
theorem dX6_init_40 : decode cX6_init 40 = .ok (.newarray .int, 2) := by decide +kernel
theorem dX6_init_42 : decode cX6_init 42 = .ok (.putfield 24, 3) := by decide +kernel
theorem dX6_init_45 : decode cX6_init 45 = .ok (.return_, 1) := by decide +kernel
theorem dX6_predict_0 : decode cX6_predict 0 = .ok (.aload_n 0, 1) := by decide +kernel
theorem dX6_predict_1 : decode cX6_predict 1 = .ok (.aload_n 1, 1) := by decide +kernel
theorem dX6_predict_2 : decode cX6_predict 2 = .ok (.invokevirtual 27, 3) := by decide +kernel
theorem dX6_predict_5 : decode cX6_predict 5 = .ok (.aload_n 0, 1) := by decide +kernel
theorem dX6_predict_6 : decode cX6_predict 6 = .ok (.invokevirtual 31, 3) := by decide +kernel
theorem dX6_predict_9 : decode cX6_predict 9 = .ok (.aload_n 0, 1) := by decide +kernel
theorem dX6_predict_10 : decode cX6_predict 10 = .ok (.invokevirtual 34, 3) := by decide +kernel
theorem dX6_predict_13 : decode cX6_predict 13 = .ok (.iconst 0, 1) := by decide +kernel
theorem dX6_predict_14 : decode cX6_predict 14 = .ok (.istore_n 3, 1) := by decide +kernel
theorem dX6_predict_15 : decode cX6_predict 15 = .ok (.iload_n 3, 1) := by decide +kernel
theorem dX6_predict_16 : decode cX6_predict 16 = .ok (.bipush 8, 2) := by decide +kernel
theorem dX6_predict_18 : decode cX6_predict 18 = .ok (.if_icmp .ge 25, 3) := by decide +kernel
theorem dX6_predict_21 : decode cX6_predict 21 = .ok (.aload_n 2, 1) := by decide +kernel
theorem dX6_predict_22 : decode cX6_predict 22 = .ok (.iload_n 3, 1) := by decide +kernel
theorem dX6_predict_23 : decode cX6_predict 23 = .ok (.iload_n 3, 1) := by decide +kernel
theorem dX6_predict_24 : decode cX6_predict 24 = .ok (.aload_n 0, 1) := by decide +kernel
theorem dX6_predict_25 : decode cX6_predict 25 = .ok (.getfield 24, 3) := by decide +kernel
theorem dX6_predict_28 : decode cX6_predict 28 = .ok (.iload_n 3, 1) := by decide +kernel
theorem dX6_predict_29 : decode cX6_predict 29 = .ok (.iaload, 1) := by decide +kernel
theorem dX6_predict_30 : decode cX6_predict 30 = .ok (.invokestatic 37, 3) := by decide +kernel
theorem dX6_predict_33 : decode cX6_predict 33 = .ok (.invokestatic 41, 3) := by decide +kernel
theorem dX6_predict_36 : decode cX6_predict 36 = .ok (.iastore, 1) := by decide +kernel
theorem dX6_predict_37 : decode cX6_predict 37 = .ok (.iinc 3 1, 3) := by decide +kernel
theorem dX6_predict_40 : decode cX6_predict 40 = .ok (.goto (-25), 3) := by decide +kernel
theorem dX6_predict_43 : decode cX6_predict 43 = .ok (.return_, 1) := by decide +kernel
theorem dX6_lower_0 : decode cX6_lower 0 = .ok (.aload_n 1, 1) := by decide +kernel
theorem dX6_lower_1 : decode cX6_lower 1 = .ok (.iconst 0, 1) := by decide +kernel
theorem dX6_lower_2 : decode cX6_lower 2 = .ok (.iconst 1, 1) := by decide +kernel
theorem dX6_lower_3 : decode cX6_lower 3 = .ok (.sipush 160, 3) := by decide +kernel
theorem dX6_lower_6 : decode cX6_lower 6 = .ok (.invokestatic 45, 3) := by decide +kernel
theorem dX6_lower_9 : decode cX6_lower 9 = .ok (.istore_n 2, 1) := by decide +kernel
theorem dX6_lower_10 : decode cX6_lower 10 = .ok (.iload_n 2, 1) := by decide +kernel
theorem dX6_lower_11 : decode cX6_lower 11 = .ok (.ifCond .ne 7, 3) := by decide +kernel
theorem dX6_lower_14 : decode cX6_lower 14 = .ok (.iconst 0, 1) := by decide +kernel
theorem dX6_lower_15 : decode cX6_lower 15 = .ok (.goto 12, 3) := by decide +kernel
theorem dX6_lower_18 : decode cX6_lower 18 = .ok (.iconst 4, 1) := by decide +kernel
theorem dX6_lower_19 : decode cX6_lower 19 = .ok (.iload_n 2, 1) := by decide +kernel
theorem dX6_lower_20 : decode cX6_lower 20 = .ok (.bipush 16, 2) := by decide +kernel
theorem dX6_lower_22 : decode cX6_lower 22 = .ok (.ishl, 1) := by decide +kernel
theorem dX6_lower_23 : decode cX6_lower 23 = .ok (.invokestatic 51, 3) := by decide +kernel
theorem dX6_lower_26 : decode cX6_lower 26 = .ok (.isub, 1) := by decide +kernel
theorem dX6_lower_27 : decode cX6_lower 27 = .ok (.istore_n 3, 1) := by decide +kernel
theorem dX6_lower_28 : decode cX6_lower 28 = .ok (.iconst 0, 1) := by decide +kernel
theorem dX6_lower_29 : decode cX6_lower 29 = .ok (.istore 4, 2) := by decide +kernel
theorem dX6_lower_31 : decode cX6_lower 31 = .ok (.iload 4, 2) := by decide +kernel
theorem dX6_lower_33 : decode cX6_lower 33 = .ok (.sipush 160, 3) := by decide +kernel
theorem dX6_lower_36 : decode cX6_lower 36 = .ok (.if_icmp .ge 64, 3) := by decide +kernel
theorem dX6_lower_39 : decode cX6_lower 39 = .ok (.iload_n 3, 1) := by decide +kernel
theorem dX6_lower_40 : decode cX6_lower 40 = .ok (.ifCond .le 43, 3) := by decide +kernel
theorem dX6_lower_43 : decode cX6_lower 43 = .ok (.aload_n 0, 1) := by decide +kernel
theorem dX6_lower_44 : decode cX6_lower 44 = .ok (.getfield 9, 3) := by decide +kernel
theorem dX6_lower_47 : decode cX6_lower 47 = .ok (.iload 4, 2) := by decide +kernel
theorem dX6_lower_49 : decode cX6_lower 49 = .ok (.aload_n 1, 1) := by decide +kernel
theorem dX6_lower_50 : decode cX6_lower 50 = .ok (.iload 4, 2) := by decide +kernel
theorem dX6_lower_52 : decode cX6_lower 52 = .ok (.iaload, 1) := by decide +kernel
theorem dX6_lower_53 : decode cX6_lower 53 = .ok (.sipush 16384, 3) := by decide +kernel
theorem dX6_lower_56 : decode cX6_lower 56 = .ok (.iload_n 3, 1) := by decide +kernel
theorem dX6_lower_57 : decode cX6_lower 57 = .ok (.iconst 1, 1) := by decide +kernel
theorem dX6_lower_58 : decode cX6_lower 58 = .ok (.isub, 1) := by decide +kernel
theorem dX6_lower_59 : decode cX6_lower 59 = .ok (.ishr, 1) := by decide +kernel
theorem dX6_lower_60 : decode cX6_lower 60 = .ok (.invokestatic 54, 3) := by decide +kernel
theorem dX6_lower_63 : decode cX6_lower 63 = .ok (.iastore, 1) := by decide +kernel
theorem dX6_lower_64 : decode cX6_lower 64 = .ok (.aload_n 1, 1) := by decide +kernel
theorem dX6_lower_65 : decode cX6_lower 65 = .ok (.iload 4, 2) := by decide +kernel
theorem dX6_lower_67 : decode cX6_lower 67 = .ok (.aload_n 0, 1) := by decide +kernel
theorem dX6_lower_68 : decode cX6_lower 68 = .ok (.getfield 9, 3) := by decide +kernel
theorem dX6_lower_71 : decode cX6_lower 71 = .ok (.iload 4, 2) := by decide +kernel
theorem dX6_lower_73 : decode cX6_lower 73 = .ok (.iaload, 1) := by decide +kernel
theorem dX6_lower_74 : decode cX6_lower 74 = .ok (.iload_n 3, 1) := by decide +kernel
theorem dX6_lower_75 : decode cX6_lower 75 = .ok (.ishl, 1) := by decide +kernel
theorem dX6_lower_76 : decode cX6_lower 76 = .ok (.invokestatic 57, 3) := by decide +kernel
theorem dX6_lower_79 : decode cX6_lower 79 = .ok (.iastore, 1) := by decide +kernel
theorem dX6_lower_80 : decode cX6_lower 80 = .ok (.goto 14, 3) := by decide +kernel
theorem dX6_lower_83 : decode cX6_lower 83 = .ok (.aload_n 0, 1) := by decide +kernel
theorem dX6_lower_84 : decode cX6_lower 84 = .ok (.getfield 9, 3) := by decide +kernel
theorem dX6_lower_87 : decode cX6_lower 87 = .ok (.iload 4, 2) := by decide +kernel
theorem dX6_lower_89 : decode cX6_lower 89 = .ok (.aload_n 1, 1) := by decide +kernel
theorem dX6_lower_90 : decode cX6_lower 90 = .ok (.iload 4, 2) := by decide +kernel
theorem dX6_lower_92 : decode cX6_lower 92 = .ok (.iaload, 1) := by decide +kernel
theorem dX6_lower_93 : decode cX6_lower 93 = .ok (.iastore, 1) := by decide +kernel
theorem dX6_lower_94 : decode cX6_lower 94 = .ok (.iinc 4 1, 3) := by decide +kernel
theorem dX6_lower_97 : decode cX6_lower 97 = .ok (.goto (-66), 3) := by decide +kernel
theorem dX6_lower_100 : decode cX6_lower 100 = .ok (.return_, 1) := by decide +kernel
theorem dX6_correlate_0 : decode cX6_correlate 0 = .ok (.iconst 0, 1) := by decide +kernel
theorem dX6_correlate_1 : decode cX6_correlate 1 = .ok (.istore_n 1, 1) := by decide +kernel
theorem dX6_correlate_2 : decode cX6_correlate 2 = .ok (.iload_n 1, 1) := by decide +kernel
theorem dX6_correlate_3 : decode cX6_correlate 3 = .ok (.bipush 8, 2) := by decide +kernel
theorem dX6_correlate_5 : decode cX6_correlate 5 = .ok (.if_icmp .gt 53, 3) := by decide +kernel
theorem dX6_correlate_8 : decode cX6_correlate 8 = .ok (.iconst 0, 1) := by decide +kernel
theorem dX6_correlate_9 : decode cX6_correlate 9 = .ok (.istore_n 2, 1) := by decide +kernel
theorem dX6_correlate_10 : decode cX6_correlate 10 = .ok (.iload_n 1, 1) := by decide +kernel
theorem dX6_correlate_11 : decode cX6_correlate 11 = .ok (.istore_n 3, 1) := by decide +kernel
theorem dX6_correlate_12 : decode cX6_correlate 12 = .ok (.iload_n 3, 1) := by decide +kernel
theorem dX6_correlate_13 : decode cX6_correlate 13 = .ok (.sipush 160, 3) := by decide +kernel
theorem dX6_correlate_16 : decode cX6_correlate 16 = .ok (.if_icmp .ge 27, 3) := by decide +kernel
theorem dX6_correlate_19 : decode cX6_correlate 19 = .ok (.iload_n 2, 1) := by decide +kernel
theorem dX6_correlate_20 : decode cX6_correlate 20 = .ok (.aload_n 0, 1) := by decide +kernel
theorem dX6_correlate_21 : decode cX6_correlate 21 = .ok (.getfield 9, 3) := by decide +kernel
theorem dX6_correlate_24 : decode cX6_correlate 24 = .ok (.iload_n 3, 1) := by decide +kernel
theorem dX6_correlate_25 : decode cX6_correlate 25 = .ok (.iaload, 1) := by decide +kernel
theorem dX6_correlate_26 : decode cX6_correlate 26 = .ok (.aload_n 0, 1) := by decide +kernel
theorem dX6_correlate_27 : decode cX6_correlate 27 = .ok (.getfield 9, 3) := by decide +kernel
theorem dX6_correlate_30 : decode cX6_correlate 30 = .ok (.iload_n 3, 1) := by decide +kernel
theorem dX6_correlate_31 : decode cX6_correlate 31 = .ok (.iload_n 1, 1) := by decide +kernel
theorem dX6_correlate_32 : decode cX6_correlate 32 = .ok (.isub, 1) := by decide +kernel
theorem dX6_correlate_33 : decode cX6_correlate 33 = .ok (.iaload, 1) := by decide +kernel
theorem dX6_correlate_34 : decode cX6_correlate 34 = .ok (.imul, 1) := by decide +kernel
theorem dX6_correlate_35 : decode cX6_correlate 35 = .ok (.iadd, 1) := by decide +kernel
theorem dX6_correlate_36 : decode cX6_correlate 36 = .ok (.istore_n 2, 1) := by decide +kernel
theorem dX6_correlate_37 : decode cX6_correlate 37 = .ok (.iinc 3 1, 3) := by decide +kernel
theorem dX6_correlate_40 : decode cX6_correlate 40 = .ok (.goto (-28), 3) := by decide +kernel
theorem dX6_correlate_43 : decode cX6_correlate 43 = .ok (.aload_n 0, 1) := by decide +kernel
theorem dX6_correlate_44 : decode cX6_correlate 44 = .ok (.getfield 15, 3) := by decide +kernel
theorem dX6_correlate_47 : decode cX6_correlate 47 = .ok (.iload_n 1, 1) := by decide +kernel
theorem dX6_correlate_48 : decode cX6_correlate 48 = .ok (.iconst 2, 1) := by decide +kernel
theorem dX6_correlate_49 : decode cX6_correlate 49 = .ok (.iload_n 2, 1) := by decide +kernel
theorem dX6_correlate_50 : decode cX6_correlate 50 = .ok (.imul, 1) := by decide +kernel
theorem dX6_correlate_51 : decode cX6_correlate 51 = .ok (.iastore, 1) := by decide +kernel
theorem dX6_correlate_52 : decode cX6_correlate 52 = .ok (.iinc 1 1, 3) := by decide +kernel
theorem dX6_correlate_55 : decode cX6_correlate 55 = .ok (.goto (-53), 3) := by decide +kernel
theorem dX6_correlate_58 : decode cX6_correlate 58 = .ok (.return_, 1) := by decide +kernel
theorem dX6_reflect_0 : decode cX6_reflect 0 = .ok (.aload_n 0, 1) := by decide +kernel
theorem dX6_reflect_1 : decode cX6_reflect 1 = .ok (.getfield 24, 3) := by decide +kernel
theorem dX6_reflect_4 : decode cX6_reflect 4 = .ok (.iconst 0, 1) := by decide +kernel
theorem dX6_reflect_5 : decode cX6_reflect 5 = .ok (.invokestatic 60, 3) := by decide +kernel
theorem dX6_reflect_8 : decode cX6_reflect 8 = .ok (.aload_n 0, 1) := by decide +kernel
theorem dX6_reflect_9 : decode cX6_reflect 9 = .ok (.getfield 15, 3) := by decide +kernel
theorem dX6_reflect_12 : decode cX6_reflect 12 = .ok (.iconst 0, 1) := by decide +kernel
theorem dX6_reflect_13 : decode cX6_reflect 13 = .ok (.iaload, 1) := by decide +kernel
theorem dX6_reflect_14 : decode cX6_reflect 14 = .ok (.ifCond .ne 4, 3) := by decide +kernel
theorem dX6_reflect_17 : decode cX6_reflect 17 = .ok (.return_, 1) := by decide +kernel
theorem dX6_reflect_18 : decode cX6_reflect 18 = .ok (.aload_n 0, 1) := by decide +kernel
theorem dX6_reflect_19 : decode cX6_reflect 19 = .ok (.getfield 15, 3) := by decide +kernel
theorem dX6_reflect_22 : decode cX6_reflect 22 = .ok (.iconst 0, 1) := by decide +kernel
theorem dX6_reflect_23 : decode cX6_reflect 23 = .ok (.iaload, 1) := by decide +kernel
theorem dX6_reflect_24 : decode cX6_reflect 24 = .ok (.invokestatic 51, 3) := by decide +kernel
theorem dX6_reflect_27 : decode cX6_reflect 27 = .ok (.istore_n 1, 1) := by decide +kernel
theorem dX6_reflect_28 : decode cX6_reflect 28 = .ok (.iconst 0, 1) := by decide +kernel
theorem dX6_reflect_29 : decode cX6_reflect 29 = .ok (.istore_n 2, 1) := by decide +kernel
theorem dX6_reflect_30 : decode cX6_reflect 30 = .ok (.iload_n 2, 1) := by decide +kernel
theorem dX6_reflect_31 : decode cX6_reflect 31 = .ok (.bipush 8, 2) := by decide +kernel
theorem dX6_reflect_33 : decode cX6_reflect 33 = .ok (.if_icmp .gt 38, 3) := by decide +kernel
theorem dX6_reflect_36 : decode cX6_reflect 36 = .ok (.aload_n 0, 1) := by decide +kernel
theorem dX6_reflect_37 : decode cX6_reflect 37 = .ok (.getfield 18, 3) := by decide +kernel
theorem dX6_reflect_40 : decode cX6_reflect 40 = .ok (.iload_n 2, 1) := by decide +kernel
theorem dX6_reflect_41 : decode cX6_reflect 41 = .ok (.aload_n 0, 1) := by decide +kernel
theorem dX6_reflect_42 : decode cX6_reflect 42 = .ok (.getfield 15, 3) := by decide +kernel
theorem dX6_reflect_45 : decode cX6_reflect 45 = .ok (.iload_n 2, 1) := by decide +kernel
theorem dX6_reflect_46 : decode cX6_reflect 46 = .ok (.iaload, 1) := by decide +kernel
theorem dX6_reflect_47 : decode cX6_reflect 47 = .ok (.iload_n 1, 1) := by decide +kernel
theorem dX6_reflect_48 : decode cX6_reflect 48 = .ok (.ishl, 1) := by decide +kernel
theorem dX6_reflect_49 : decode cX6_reflect 49 = .ok (.bipush 16, 2) := by decide +kernel
theorem dX6_reflect_51 : decode cX6_reflect 51 = .ok (.ishr, 1) := by decide +kernel
theorem dX6_reflect_52 : decode cX6_reflect 52 = .ok (.iastore, 1) := by decide +kernel
theorem dX6_reflect_53 : decode cX6_reflect 53 = .ok (.aload_n 0, 1) := by decide +kernel
theorem dX6_reflect_54 : decode cX6_reflect 54 = .ok (.getfield 21, 3) := by decide +kernel
theorem dX6_reflect_57 : decode cX6_reflect 57 = .ok (.iload_n 2, 1) := by decide +kernel
theorem dX6_reflect_58 : decode cX6_reflect 58 = .ok (.aload_n 0, 1) := by decide +kernel
theorem dX6_reflect_59 : decode cX6_reflect 59 = .ok (.getfield 18, 3) := by decide +kernel
theorem dX6_reflect_62 : decode cX6_reflect 62 = .ok (.iload_n 2, 1) := by decide +kernel
theorem dX6_reflect_63 : decode cX6_reflect 63 = .ok (.iaload, 1) := by decide +kernel
theorem dX6_reflect_64 : decode cX6_reflect 64 = .ok (.iastore, 1) := by decide +kernel
theorem dX6_reflect_65 : decode cX6_reflect 65 = .ok (.iinc 2 1, 3) := by decide +kernel
theorem dX6_reflect_68 : decode cX6_reflect 68 = .ok (.goto (-38), 3) := by decide +kernel
theorem dX6_reflect_71 : decode cX6_reflect 71 = .ok (.iconst 1, 1) := by decide +kernel
theorem dX6_reflect_72 : decode cX6_reflect 72 = .ok (.istore_n 2, 1) := by decide +kernel
theorem dX6_reflect_73 : decode cX6_reflect 73 = .ok (.iload_n 2, 1) := by decide +kernel
theorem dX6_reflect_74 : decode cX6_reflect 74 = .ok (.bipush 8, 2) := by decide +kernel
theorem dX6_reflect_76 : decode cX6_reflect 76 = .ok (.if_icmp .gt 64, 3) := by decide +kernel
theorem dX6_reflect_79 : decode cX6_reflect 79 = .ok (.aload_n 0, 1) := by decide +kernel
theorem dX6_reflect_80 : decode cX6_reflect 80 = .ok (.getfield 18, 3) := by decide +kernel
theorem dX6_reflect_83 : decode cX6_reflect 83 = .ok (.iconst 0, 1) := by decide +kernel
theorem dX6_reflect_84 : decode cX6_reflect 84 = .ok (.iaload, 1) := by decide +kernel
theorem dX6_reflect_85 : decode cX6_reflect 85 = .ok (.aload_n 0, 1) := by decide +kernel
theorem dX6_reflect_86 : decode cX6_reflect 86 = .ok (.getfield 18, 3) := by decide +kernel
theorem dX6_reflect_89 : decode cX6_reflect 89 = .ok (.iconst 1, 1) := by decide +kernel
theorem dX6_reflect_90 : decode cX6_reflect 90 = .ok (.iaload, 1) := by decide +kernel
theorem dX6_reflect_91 : decode cX6_reflect 91 = .ok (.invokestatic 66, 3) := by decide +kernel
theorem dX6_reflect_94 : decode cX6_reflect 94 = .ok (.if_icmp .ge 4, 3) := by decide +kernel
theorem dX6_reflect_97 : decode cX6_reflect 97 = .ok (.return_, 1) := by decide +kernel
theorem dX6_reflect_98 : decode cX6_reflect 98 = .ok (.aload_n 0, 1) := by decide +kernel
theorem dX6_reflect_99 : decode cX6_reflect 99 = .ok (.getfield 24, 3) := by decide +kernel
theorem dX6_reflect_102 : decode cX6_reflect 102 = .ok (.iload_n 2, 1) := by decide +kernel
theorem dX6_reflect_103 : decode cX6_reflect 103 = .ok (.iconst 1, 1) := by decide +kernel
theorem dX6_reflect_104 : decode cX6_reflect 104 = .ok (.isub, 1) := by decide +kernel
theorem dX6_reflect_105 : decode cX6_reflect 105 = .ok (.aload_n 0, 1) := by decide +kernel
theorem dX6_reflect_106 : decode cX6_reflect 106 = .ok (.getfield 18, 3) := by decide +kernel
theorem dX6_reflect_109 : decode cX6_reflect 109 = .ok (.iconst 1, 1) := by decide +kernel
theorem dX6_reflect_110 : decode cX6_reflect 110 = .ok (.iaload, 1) := by decide +kernel
theorem dX6_reflect_111 : decode cX6_reflect 111 = .ok (.aload_n 0, 1) := by decide +kernel
theorem dX6_reflect_112 : decode cX6_reflect 112 = .ok (.getfield 18, 3) := by decide +kernel
theorem dX6_reflect_115 : decode cX6_reflect 115 = .ok (.iconst 0, 1) := by decide +kernel
theorem dX6_reflect_116 : decode cX6_reflect 116 = .ok (.iaload, 1) := by decide +kernel
theorem dX6_reflect_117 : decode cX6_reflect 117 = .ok (.invokestatic 69, 3) := by decide +kernel
theorem dX6_reflect_120 : decode cX6_reflect 120 = .ok (.iastore, 1) := by decide +kernel
theorem dX6_reflect_121 : decode cX6_reflect 121 = .ok (.aload_n 0, 1) := by decide +kernel
theorem dX6_reflect_122 : decode cX6_reflect 122 = .ok (.iload_n 2, 1) := by decide +kernel
theorem dX6_reflect_123 : decode cX6_reflect 123 = .ok (.aload_n 0, 1) := by decide +kernel
theorem dX6_reflect_124 : decode cX6_reflect 124 = .ok (.getfield 24, 3) := by decide +kernel
theorem dX6_reflect_127 : decode cX6_reflect 127 = .ok (.iload_n 2, 1) := by decide +kernel
theorem dX6_reflect_128 : decode cX6_reflect 128 = .ok (.iconst 1, 1) := by decide +kernel
theorem dX6_reflect_129 : decode cX6_reflect 129 = .ok (.isub, 1) := by decide +kernel
theorem dX6_reflect_130 : decode cX6_reflect 130 = .ok (.iaload, 1) := by decide +kernel
theorem dX6_reflect_131 : decode cX6_reflect 131 = .ok (.invokevirtual 72, 3) := by decide +kernel
theorem dX6_reflect_134 : decode cX6_reflect 134 = .ok (.iinc 2 1, 3) := by decide +kernel
theorem dX6_reflect_137 : decode cX6_reflect 137 = .ok (.goto (-64), 3) := by decide +kernel
theorem dX6_reflect_140 : decode cX6_reflect 140 = .ok (.return_, 1) := by decide +kernel
theorem dX6_reflection_0 : decode cX6_reflection 0 = .ok (.iload_n 0, 1) := by decide +kernel
theorem dX6_reflection_1 : decode cX6_reflection 1 = .ok (.ifCond .eq 7, 3) := by decide +kernel
theorem dX6_reflection_4 : decode cX6_reflection 4 = .ok (.iload_n 1, 1) := by decide +kernel
theorem dX6_reflection_5 : decode cX6_reflection 5 = .ok (.ifCond .gt 5, 3) := by decide +kernel
theorem dX6_reflection_8 : decode cX6_reflection 8 = .ok (.iconst 0, 1) := by decide +kernel
theorem dX6_reflection_9 : decode cX6_reflection 9 = .ok (.ireturn, 1) := by decide +kernel
theorem dX6_reflection_10 : decode cX6_reflection 10 = .ok (.iload_n 0, 1) := by decide +kernel
theorem dX6_reflection_11 : decode cX6_reflection 11 = .ok (.invokestatic 66, 3) := by decide +kernel
theorem dX6_reflection_14 : decode cX6_reflection 14 = .ok (.ldc 76, 2) := by decide +kernel
theorem dX6_reflection_16 : decode cX6_reflection 16 = .ok (.imul, 1) := by decide +kernel
theorem dX6_reflection_17 : decode cX6_reflection 17 = .ok (.iload_n 1, 1) := by decide +kernel
theorem dX6_reflection_18 : decode cX6_reflection 18 = .ok (.idiv, 1) := by decide +kernel
theorem dX6_reflection_19 : decode cX6_reflection 19 = .ok (.istore_n 2, 1) := by decide +kernel
theorem dX6_reflection_20 : decode cX6_reflection 20 = .ok (.iload_n 2, 1) := by decide +kernel
theorem dX6_reflection_21 : decode cX6_reflection 21 = .ok (.sipush 32767, 3) := by decide +kernel
theorem dX6_reflection_24 : decode cX6_reflection 24 = .ok (.if_icmp .le 9, 3) := by decide +kernel
theorem dX6_reflection_27 : decode cX6_reflection 27 = .ok (.sipush 32767, 3) := by decide +kernel
theorem dX6_reflection_30 : decode cX6_reflection 30 = .ok (.goto 4, 3) := by decide +kernel
theorem dX6_reflection_33 : decode cX6_reflection 33 = .ok (.iload_n 2, 1) := by decide +kernel
theorem dX6_reflection_34 : decode cX6_reflection 34 = .ok (.istore_n 3, 1) := by decide +kernel
theorem dX6_reflection_35 : decode cX6_reflection 35 = .ok (.iload_n 0, 1) := by decide +kernel
theorem dX6_reflection_36 : decode cX6_reflection 36 = .ok (.ifCond .le 8, 3) := by decide +kernel
theorem dX6_reflection_39 : decode cX6_reflection 39 = .ok (.iload_n 3, 1) := by decide +kernel
theorem dX6_reflection_40 : decode cX6_reflection 40 = .ok (.ineg, 1) := by decide +kernel
theorem dX6_reflection_41 : decode cX6_reflection 41 = .ok (.goto 4, 3) := by decide +kernel
theorem dX6_reflection_44 : decode cX6_reflection 44 = .ok (.iload_n 3, 1) := by decide +kernel
theorem dX6_reflection_45 : decode cX6_reflection 45 = .ok (.ireturn, 1) := by decide +kernel
theorem dX6_fold_0 : decode cX6_fold 0 = .ok (.aload_n 0, 1) := by decide +kernel
theorem dX6_fold_1 : decode cX6_fold 1 = .ok (.getfield 18, 3) := by decide +kernel
theorem dX6_fold_4 : decode cX6_fold 4 = .ok (.iconst 0, 1) := by decide +kernel
theorem dX6_fold_5 : decode cX6_fold 5 = .ok (.aload_n 0, 1) := by decide +kernel
theorem dX6_fold_6 : decode cX6_fold 6 = .ok (.getfield 18, 3) := by decide +kernel
theorem dX6_fold_9 : decode cX6_fold 9 = .ok (.iconst 0, 1) := by decide +kernel
theorem dX6_fold_10 : decode cX6_fold 10 = .ok (.iaload, 1) := by decide +kernel
theorem dX6_fold_11 : decode cX6_fold 11 = .ok (.aload_n 0, 1) := by decide +kernel
theorem dX6_fold_12 : decode cX6_fold 12 = .ok (.getfield 18, 3) := by decide +kernel
theorem dX6_fold_15 : decode cX6_fold 15 = .ok (.iconst 1, 1) := by decide +kernel
theorem dX6_fold_16 : decode cX6_fold 16 = .ok (.iaload, 1) := by decide +kernel
theorem dX6_fold_17 : decode cX6_fold 17 = .ok (.iload_n 2, 1) := by decide +kernel
theorem dX6_fold_18 : decode cX6_fold 18 = .ok (.invokestatic 54, 3) := by decide +kernel
theorem dX6_fold_21 : decode cX6_fold 21 = .ok (.iadd, 1) := by decide +kernel
theorem dX6_fold_22 : decode cX6_fold 22 = .ok (.invokestatic 57, 3) := by decide +kernel
theorem dX6_fold_25 : decode cX6_fold 25 = .ok (.iastore, 1) := by decide +kernel
theorem dX6_fold_26 : decode cX6_fold 26 = .ok (.iconst 1, 1) := by decide +kernel
theorem dX6_fold_27 : decode cX6_fold 27 = .ok (.istore_n 3, 1) := by decide +kernel
theorem dX6_fold_28 : decode cX6_fold 28 = .ok (.iload_n 3, 1) := by decide +kernel
theorem dX6_fold_29 : decode cX6_fold 29 = .ok (.bipush 8, 2) := by decide +kernel
theorem dX6_fold_31 : decode cX6_fold 31 = .ok (.iload_n 1, 1) := by decide +kernel
theorem dX6_fold_32 : decode cX6_fold 32 = .ok (.isub, 1) := by decide +kernel
theorem dX6_fold_33 : decode cX6_fold 33 = .ok (.if_icmp .gt 65, 3) := by decide +kernel
theorem dX6_fold_36 : decode cX6_fold 36 = .ok (.aload_n 0, 1) := by decide +kernel
theorem dX6_fold_37 : decode cX6_fold 37 = .ok (.getfield 18, 3) := by decide +kernel
theorem dX6_fold_40 : decode cX6_fold 40 = .ok (.iload_n 3, 1) := by decide +kernel
theorem dX6_fold_41 : decode cX6_fold 41 = .ok (.aload_n 0, 1) := by decide +kernel
theorem dX6_fold_42 : decode cX6_fold 42 = .ok (.getfield 18, 3) := by decide +kernel
theorem dX6_fold_45 : decode cX6_fold 45 = .ok (.iload_n 3, 1) := by decide +kernel
theorem dX6_fold_46 : decode cX6_fold 46 = .ok (.iconst 1, 1) := by decide +kernel
theorem dX6_fold_47 : decode cX6_fold 47 = .ok (.iadd, 1) := by decide +kernel
theorem dX6_fold_48 : decode cX6_fold 48 = .ok (.iaload, 1) := by decide +kernel
theorem dX6_fold_49 : decode cX6_fold 49 = .ok (.aload_n 0, 1) := by decide +kernel
theorem dX6_fold_50 : decode cX6_fold 50 = .ok (.getfield 21, 3) := by decide +kernel
theorem dX6_fold_53 : decode cX6_fold 53 = .ok (.iload_n 3, 1) := by decide +kernel
theorem dX6_fold_54 : decode cX6_fold 54 = .ok (.iaload, 1) := by decide +kernel
theorem dX6_fold_55 : decode cX6_fold 55 = .ok (.iload_n 2, 1) := by decide +kernel
theorem dX6_fold_56 : decode cX6_fold 56 = .ok (.invokestatic 54, 3) := by decide +kernel
theorem dX6_fold_59 : decode cX6_fold 59 = .ok (.iadd, 1) := by decide +kernel
theorem dX6_fold_60 : decode cX6_fold 60 = .ok (.invokestatic 57, 3) := by decide +kernel
theorem dX6_fold_63 : decode cX6_fold 63 = .ok (.iastore, 1) := by decide +kernel
theorem dX6_fold_64 : decode cX6_fold 64 = .ok (.aload_n 0, 1) := by decide +kernel
theorem dX6_fold_65 : decode cX6_fold 65 = .ok (.getfield 21, 3) := by decide +kernel
theorem dX6_fold_68 : decode cX6_fold 68 = .ok (.iload_n 3, 1) := by decide +kernel
theorem dX6_fold_69 : decode cX6_fold 69 = .ok (.aload_n 0, 1) := by decide +kernel
theorem dX6_fold_70 : decode cX6_fold 70 = .ok (.getfield 21, 3) := by decide +kernel
theorem dX6_fold_73 : decode cX6_fold 73 = .ok (.iload_n 3, 1) := by decide +kernel
theorem dX6_fold_74 : decode cX6_fold 74 = .ok (.iaload, 1) := by decide +kernel
theorem dX6_fold_75 : decode cX6_fold 75 = .ok (.aload_n 0, 1) := by decide +kernel
theorem dX6_fold_76 : decode cX6_fold 76 = .ok (.getfield 18, 3) := by decide +kernel
theorem dX6_fold_79 : decode cX6_fold 79 = .ok (.iload_n 3, 1) := by decide +kernel
theorem dX6_fold_80 : decode cX6_fold 80 = .ok (.iconst 1, 1) := by decide +kernel
theorem dX6_fold_81 : decode cX6_fold 81 = .ok (.iadd, 1) := by decide +kernel
theorem dX6_fold_82 : decode cX6_fold 82 = .ok (.iaload, 1) := by decide +kernel
theorem dX6_fold_83 : decode cX6_fold 83 = .ok (.iload_n 2, 1) := by decide +kernel
theorem dX6_fold_84 : decode cX6_fold 84 = .ok (.invokestatic 54, 3) := by decide +kernel
theorem dX6_fold_87 : decode cX6_fold 87 = .ok (.iadd, 1) := by decide +kernel
theorem dX6_fold_88 : decode cX6_fold 88 = .ok (.invokestatic 57, 3) := by decide +kernel
theorem dX6_fold_91 : decode cX6_fold 91 = .ok (.iastore, 1) := by decide +kernel
theorem dX6_fold_92 : decode cX6_fold 92 = .ok (.iinc 3 1, 3) := by decide +kernel
theorem dX6_fold_95 : decode cX6_fold 95 = .ok (.goto (-67), 3) := by decide +kernel
theorem dX6_fold_98 : decode cX6_fold 98 = .ok (.return_, 1) := by decide +kernel
theorem dX6_bent_0 : decode cX6_bent 0 = .ok (.iload_n 0, 1) := by decide +kernel
theorem dX6_bent_1 : decode cX6_bent 1 = .ok (.invokestatic 66, 3) := by decide +kernel
theorem dX6_bent_4 : decode cX6_bent 4 = .ok (.istore_n 1, 1) := by decide +kernel
theorem dX6_bent_5 : decode cX6_bent 5 = .ok (.iload_n 1, 1) := by decide +kernel
theorem dX6_bent_6 : decode cX6_bent 6 = .ok (.sipush 22118, 3) := by decide +kernel
theorem dX6_bent_9 : decode cX6_bent 9 = .ok (.if_icmp .ge 9, 3) := by decide +kernel
theorem dX6_bent_12 : decode cX6_bent 12 = .ok (.iload_n 1, 1) := by decide +kernel
theorem dX6_bent_13 : decode cX6_bent 13 = .ok (.iconst 1, 1) := by decide +kernel
theorem dX6_bent_14 : decode cX6_bent 14 = .ok (.ishr, 1) := by decide +kernel
theorem dX6_bent_15 : decode cX6_bent 15 = .ok (.goto 25, 3) := by decide +kernel
theorem dX6_bent_18 : decode cX6_bent 18 = .ok (.iload_n 1, 1) := by decide +kernel
theorem dX6_bent_19 : decode cX6_bent 19 = .ok (.sipush 31130, 3) := by decide +kernel
theorem dX6_bent_22 : decode cX6_bent 22 = .ok (.if_icmp .ge 11, 3) := by decide +kernel
theorem dX6_bent_25 : decode cX6_bent 25 = .ok (.iload_n 1, 1) := by decide +kernel
theorem dX6_bent_26 : decode cX6_bent 26 = .ok (.sipush 11059, 3) := by decide +kernel
theorem dX6_bent_29 : decode cX6_bent 29 = .ok (.isub, 1) := by decide +kernel
theorem dX6_bent_30 : decode cX6_bent 30 = .ok (.goto 10, 3) := by decide +kernel
theorem dX6_bent_33 : decode cX6_bent 33 = .ok (.iload_n 1, 1) := by decide +kernel
theorem dX6_bent_34 : decode cX6_bent 34 = .ok (.sipush 26112, 3) := by decide +kernel
theorem dX6_bent_37 : decode cX6_bent 37 = .ok (.isub, 1) := by decide +kernel
theorem dX6_bent_38 : decode cX6_bent 38 = .ok (.iconst 4, 1) := by decide +kernel
theorem dX6_bent_39 : decode cX6_bent 39 = .ok (.imul, 1) := by decide +kernel
theorem dX6_bent_40 : decode cX6_bent 40 = .ok (.istore_n 2, 1) := by decide +kernel
theorem dX6_bent_41 : decode cX6_bent 41 = .ok (.iload_n 0, 1) := by decide +kernel
theorem dX6_bent_42 : decode cX6_bent 42 = .ok (.iload_n 2, 1) := by decide +kernel
theorem dX6_bent_43 : decode cX6_bent 43 = .ok (.invokestatic 77, 3) := by decide +kernel
theorem dX6_bent_46 : decode cX6_bent 46 = .ok (.ireturn, 1) := by decide +kernel
theorem dX6_filterNumber_0 : decode cX6_filterNumber 0 = .ok (.getstatic 80, 3) := by decide +kernel
theorem dX6_filterNumber_3 : decode cX6_filterNumber 3 = .ok (.iload_n 0, 1) := by decide +kernel
theorem dX6_filterNumber_4 : decode cX6_filterNumber 4 = .ok (.iaload, 1) := by decide +kernel
theorem dX6_filterNumber_5 : decode cX6_filterNumber 5 = .ok (.iload_n 1, 1) := by decide +kernel
theorem dX6_filterNumber_6 : decode cX6_filterNumber 6 = .ok (.invokestatic 83, 3) := by decide +kernel
theorem dX6_filterNumber_9 : decode cX6_filterNumber 9 = .ok (.getstatic 86, 3) := by decide +kernel
theorem dX6_filterNumber_12 : decode cX6_filterNumber 12 = .ok (.iload_n 0, 1) := by decide +kernel
theorem dX6_filterNumber_13 : decode cX6_filterNumber 13 = .ok (.iaload, 1) := by decide +kernel
theorem dX6_filterNumber_14 : decode cX6_filterNumber 14 = .ok (.iadd, 1) := by decide +kernel
theorem dX6_filterNumber_15 : decode cX6_filterNumber 15 = .ok (.invokestatic 57, 3) := by decide +kernel
theorem dX6_filterNumber_18 : decode cX6_filterNumber 18 = .ok (.istore_n 2, 1) := by decide +kernel
theorem dX6_filterNumber_19 : decode cX6_filterNumber 19 = .ok (.iload_n 2, 1) := by decide +kernel
theorem dX6_filterNumber_20 : decode cX6_filterNumber 20 = .ok (.sipush 256, 3) := by decide +kernel
theorem dX6_filterNumber_23 : decode cX6_filterNumber 23 = .ok (.iadd, 1) := by decide +kernel
theorem dX6_filterNumber_24 : decode cX6_filterNumber 24 = .ok (.invokestatic 57, 3) := by decide +kernel
theorem dX6_filterNumber_27 : decode cX6_filterNumber 27 = .ok (.bipush 9, 2) := by decide +kernel
theorem dX6_filterNumber_29 : decode cX6_filterNumber 29 = .ok (.ishr, 1) := by decide +kernel
theorem dX6_filterNumber_30 : decode cX6_filterNumber 30 = .ok (.istore_n 3, 1) := by decide +kernel
theorem dX6_filterNumber_31 : decode cX6_filterNumber 31 = .ok (.iload_n 3, 1) := by decide +kernel
theorem dX6_filterNumber_32 : decode cX6_filterNumber 32 = .ok (.getstatic 89, 3) := by decide +kernel
theorem dX6_filterNumber_35 : decode cX6_filterNumber 35 = .ok (.iload_n 0, 1) := by decide +kernel
theorem dX6_filterNumber_36 : decode cX6_filterNumber 36 = .ok (.iaload, 1) := by decide +kernel
theorem dX6_filterNumber_37 : decode cX6_filterNumber 37 = .ok (.if_icmp .ge 11, 3) := by decide +kernel
theorem dX6_filterNumber_40 : decode cX6_filterNumber 40 = .ok (.getstatic 89, 3) := by decide +kernel
theorem dX6_filterNumber_43 : decode cX6_filterNumber 43 = .ok (.iload_n 0, 1) := by decide +kernel
theorem dX6_filterNumber_44 : decode cX6_filterNumber 44 = .ok (.iaload, 1) := by decide +kernel
theorem dX6_filterNumber_45 : decode cX6_filterNumber 45 = .ok (.goto 4, 3) := by decide +kernel
theorem dX6_filterNumber_48 : decode cX6_filterNumber 48 = .ok (.iload_n 3, 1) := by decide +kernel
theorem dX6_filterNumber_49 : decode cX6_filterNumber 49 = .ok (.istore 4, 2) := by decide +kernel
theorem dX6_filterNumber_51 : decode cX6_filterNumber 51 = .ok (.iload 4, 2) := by decide +kernel
theorem dX6_filterNumber_53 : decode cX6_filterNumber 53 = .ok (.getstatic 92, 3) := by decide +kernel
theorem dX6_filterNumber_56 : decode cX6_filterNumber 56 = .ok (.iload_n 0, 1) := by decide +kernel
theorem dX6_filterNumber_57 : decode cX6_filterNumber 57 = .ok (.iaload, 1) := by decide +kernel
theorem dX6_filterNumber_58 : decode cX6_filterNumber 58 = .ok (.if_icmp .le 11, 3) := by decide +kernel
theorem dX6_filterNumber_61 : decode cX6_filterNumber 61 = .ok (.getstatic 92, 3) := by decide +kernel
theorem dX6_filterNumber_64 : decode cX6_filterNumber 64 = .ok (.iload_n 0, 1) := by decide +kernel
theorem dX6_filterNumber_65 : decode cX6_filterNumber 65 = .ok (.iaload, 1) := by decide +kernel
theorem dX6_filterNumber_66 : decode cX6_filterNumber 66 = .ok (.goto 5, 3) := by decide +kernel
theorem dX6_filterNumber_69 : decode cX6_filterNumber 69 = .ok (.iload 4, 2) := by decide +kernel
theorem dX6_filterNumber_71 : decode cX6_filterNumber 71 = .ok (.getstatic 89, 3) := by decide +kernel
theorem dX6_filterNumber_74 : decode cX6_filterNumber 74 = .ok (.iload_n 0, 1) := by decide +kernel
theorem dX6_filterNumber_75 : decode cX6_filterNumber 75 = .ok (.iaload, 1) := by decide +kernel
theorem dX6_filterNumber_76 : decode cX6_filterNumber 76 = .ok (.isub, 1) := by decide +kernel
theorem dX6_filterNumber_77 : decode cX6_filterNumber 77 = .ok (.ireturn, 1) := by decide +kernel
theorem dX7_init_0 : decode cX7_init 0 = .ok (.aload_n 0, 1) := by decide +kernel
theorem dX7_init_1 : decode cX7_init 1 = .ok (.invokespecial 3, 3) := by decide +kernel
theorem dX7_init_4 : decode cX7_init 4 = .ok (.aload_n 0, 1) := by decide +kernel
theorem dX7_init_5 : decode cX7_init 5 = .ok (.bipush 40, 2) := by decide +kernel
theorem dX7_init_7 : decode cX7_init 7 = .ok (.newarray .int, 2) := by decide +kernel
theorem dX7_init_9 : decode cX7_init 9 = .ok (.putfield 9, 3) := by decide +kernel
theorem dX7_init_12 : decode cX7_init 12 = .ok (.return_, 1) := by decide +kernel
theorem dX7_scaleBy_0 : decode cX7_scaleBy 0 = .ok (.iload_n 1, 1) := by decide +kernel
theorem dX7_scaleBy_1 : decode cX7_scaleBy 1 = .ok (.bipush 15, 2) := by decide +kernel
theorem dX7_scaleBy_3 : decode cX7_scaleBy 3 = .ok (.if_icmp .le 11, 3) := by decide +kernel
theorem dX7_scaleBy_6 : decode cX7_scaleBy 6 = .ok (.iload_n 1, 1) := by decide +kernel
theorem dX7_scaleBy_7 : decode cX7_scaleBy 7 = .ok (.iconst 3, 1) := by decide +kernel
theorem dX7_scaleBy_8 : decode cX7_scaleBy 8 = .ok (.ishr, 1) := by decide +kernel
theorem dX7_scaleBy_9 : decode cX7_scaleBy 9 = .ok (.iconst 1, 1) := by decide +kernel
theorem dX7_scaleBy_10 : decode cX7_scaleBy 10 = .ok (.isub, 1) := by decide +kernel
theorem dX7_scaleBy_11 : decode cX7_scaleBy 11 = .ok (.goto 4, 3) := by decide +kernel
theorem dX7_scaleBy_14 : decode cX7_scaleBy 14 = .ok (.iconst 0, 1) := by decide +kernel
theorem dX7_scaleBy_15 : decode cX7_scaleBy 15 = .ok (.istore_n 2, 1) := by decide +kernel
theorem dX7_scaleBy_16 : decode cX7_scaleBy 16 = .ok (.iload_n 1, 1) := by decide +kernel
theorem dX7_scaleBy_17 : decode cX7_scaleBy 17 = .ok (.bipush 8, 2) := by decide +kernel
theorem dX7_scaleBy_19 : decode cX7_scaleBy 19 = .ok (.iload_n 2, 1) := by decide +kernel
theorem dX7_scaleBy_20 : decode cX7_scaleBy 20 = .ok (.imul, 1) := by decide +kernel
theorem dX7_scaleBy_21 : decode cX7_scaleBy 21 = .ok (.isub, 1) := by decide +kernel
theorem dX7_scaleBy_22 : decode cX7_scaleBy 22 = .ok (.istore_n 3, 1) := by decide +kernel
theorem dX7_scaleBy_23 : decode cX7_scaleBy 23 = .ok (.iload_n 3, 1) := by decide +kernel
theorem dX7_scaleBy_24 : decode cX7_scaleBy 24 = .ok (.ifCond .ne 9, 3) := by decide +kernel
theorem dX7_scaleBy_27 : decode cX7_scaleBy 27 = .ok (.bipush (-4), 2) := by decide +kernel
theorem dX7_scaleBy_29 : decode cX7_scaleBy 29 = .ok (.istore_n 2, 1) := by decide +kernel
theorem dX7_scaleBy_30 : decode cX7_scaleBy 30 = .ok (.bipush 15, 2) := by decide +kernel
theorem dX7_scaleBy_32 : decode cX7_scaleBy 32 = .ok (.istore_n 3, 1) := by decide +kernel
theorem dX7_scaleBy_33 : decode cX7_scaleBy 33 = .ok (.iconst 0, 1) := by decide +kernel
theorem dX7_scaleBy_34 : decode cX7_scaleBy 34 = .ok (.istore 4, 2) := by decide +kernel
theorem dX7_scaleBy_36 : decode cX7_scaleBy 36 = .ok (.iload 4, 2) := by decide +kernel
theorem dX7_scaleBy_38 : decode cX7_scaleBy 38 = .ok (.iconst 3, 1) := by decide +kernel
theorem dX7_scaleBy_39 : decode cX7_scaleBy 39 = .ok (.if_icmp .ge 24, 3) := by decide +kernel
theorem dX7_scaleBy_42 : decode cX7_scaleBy 42 = .ok (.iload_n 3, 1) := by decide +kernel
theorem dX7_scaleBy_43 : decode cX7_scaleBy 43 = .ok (.bipush 7, 2) := by decide +kernel
theorem dX7_scaleBy_45 : decode cX7_scaleBy 45 = .ok (.if_icmp .gt 18, 3) := by decide +kernel
theorem dX7_scaleBy_48 : decode cX7_scaleBy 48 = .ok (.iconst 2, 1) := by decide +kernel
theorem dX7_scaleBy_49 : decode cX7_scaleBy 49 = .ok (.iload_n 3, 1) := by decide +kernel
theorem dX7_scaleBy_50 : decode cX7_scaleBy 50 = .ok (.imul, 1) := by decide +kernel
theorem dX7_scaleBy_51 : decode cX7_scaleBy 51 = .ok (.iconst 1, 1) := by decide +kernel
theorem dX7_scaleBy_52 : decode cX7_scaleBy 52 = .ok (.iadd, 1) := by decide +kernel
theorem dX7_scaleBy_53 : decode cX7_scaleBy 53 = .ok (.istore_n 3, 1) := by decide +kernel
theorem dX7_scaleBy_54 : decode cX7_scaleBy 54 = .ok (.iinc 2 (-1), 3) := by decide +kernel
theorem dX7_scaleBy_57 : decode cX7_scaleBy 57 = .ok (.iinc 4 1, 3) := by decide +kernel
theorem dX7_scaleBy_60 : decode cX7_scaleBy 60 = .ok (.goto (-24), 3) := by decide +kernel
theorem dX7_scaleBy_63 : decode cX7_scaleBy 63 = .ok (.aload_n 0, 1) := by decide +kernel
theorem dX7_scaleBy_64 : decode cX7_scaleBy 64 = .ok (.bipush 6, 2) := by decide +kernel
theorem dX7_scaleBy_66 : decode cX7_scaleBy 66 = .ok (.iload_n 2, 1) := by decide +kernel
theorem dX7_scaleBy_67 : decode cX7_scaleBy 67 = .ok (.isub, 1) := by decide +kernel
theorem dX7_scaleBy_68 : decode cX7_scaleBy 68 = .ok (.putfield 15, 3) := by decide +kernel
theorem dX7_scaleBy_71 : decode cX7_scaleBy 71 = .ok (.aload_n 0, 1) := by decide +kernel
theorem dX7_scaleBy_72 : decode cX7_scaleBy 72 = .ok (.iload_n 3, 1) := by decide +kernel
theorem dX7_scaleBy_73 : decode cX7_scaleBy 73 = .ok (.bipush 8, 2) := by decide +kernel
theorem dX7_scaleBy_75 : decode cX7_scaleBy 75 = .ok (.isub, 1) := by decide +kernel
theorem dX7_scaleBy_76 : decode cX7_scaleBy 76 = .ok (.putfield 19, 3) := by decide +kernel
theorem dX7_scaleBy_79 : decode cX7_scaleBy 79 = .ok (.return_, 1) := by decide +kernel
theorem dX7_told_0 : decode cX7_told 0 = .ok (.iload_n 1, 1) := by decide +kernel
theorem dX7_told_1 : decode cX7_told 1 = .ok (.aload_n 0, 1) := by decide +kernel
theorem dX7_told_2 : decode cX7_told 2 = .ok (.getfield 15, 3) := by decide +kernel
theorem dX7_told_5 : decode cX7_told 5 = .ok (.ishl, 1) := by decide +kernel
theorem dX7_told_6 : decode cX7_told 6 = .ok (.getstatic 22, 3) := by decide +kernel
theorem dX7_told_9 : decode cX7_told 9 = .ok (.aload_n 0, 1) := by decide +kernel
theorem dX7_told_10 : decode cX7_told 10 = .ok (.getfield 19, 3) := by decide +kernel
theorem dX7_told_13 : decode cX7_told 13 = .ok (.iaload, 1) := by decide +kernel
theorem dX7_told_14 : decode cX7_told 14 = .ok (.invokestatic 25, 3) := by decide +kernel
theorem dX7_told_17 : decode cX7_told 17 = .ok (.bipush 12, 2) := by decide +kernel
theorem dX7_told_19 : decode cX7_told 19 = .ok (.ishr, 1) := by decide +kernel
theorem dX7_told_20 : decode cX7_told 20 = .ok (.iconst 4, 1) := by decide +kernel
theorem dX7_told_21 : decode cX7_told 21 = .ok (.iadd, 1) := by decide +kernel
theorem dX7_told_22 : decode cX7_told 22 = .ok (.ireturn, 1) := by decide +kernel
theorem dX7_makeAgain_0 : decode cX7_makeAgain 0 = .ok (.aload_n 1, 1) := by decide +kernel
theorem dX7_makeAgain_1 : decode cX7_makeAgain 1 = .ok (.iload_n 2, 1) := by decide +kernel
theorem dX7_makeAgain_2 : decode cX7_makeAgain 2 = .ok (.iconst 2, 1) := by decide +kernel
theorem dX7_makeAgain_3 : decode cX7_makeAgain 3 = .ok (.iadd, 1) := by decide +kernel
theorem dX7_makeAgain_4 : decode cX7_makeAgain 4 = .ok (.iaload, 1) := by decide +kernel
theorem dX7_makeAgain_5 : decode cX7_makeAgain 5 = .ok (.istore_n 3, 1) := by decide +kernel
theorem dX7_makeAgain_6 : decode cX7_makeAgain 6 = .ok (.aload_n 0, 1) := by decide +kernel
theorem dX7_makeAgain_7 : decode cX7_makeAgain 7 = .ok (.aload_n 1, 1) := by decide +kernel
theorem dX7_makeAgain_8 : decode cX7_makeAgain 8 = .ok (.iload_n 2, 1) := by decide +kernel
theorem dX7_makeAgain_9 : decode cX7_makeAgain 9 = .ok (.iconst 3, 1) := by decide +kernel
theorem dX7_makeAgain_10 : decode cX7_makeAgain 10 = .ok (.iadd, 1) := by decide +kernel
theorem dX7_makeAgain_11 : decode cX7_makeAgain 11 = .ok (.iaload, 1) := by decide +kernel
theorem dX7_makeAgain_12 : decode cX7_makeAgain 12 = .ok (.invokevirtual 31, 3) := by decide +kernel
theorem dX7_makeAgain_15 : decode cX7_makeAgain 15 = .ok (.aload_n 0, 1) := by decide +kernel
theorem dX7_makeAgain_16 : decode cX7_makeAgain 16 = .ok (.getfield 9, 3) := by decide +kernel
theorem dX7_makeAgain_19 : decode cX7_makeAgain 19 = .ok (.iconst 0, 1) := by decide +kernel
theorem dX7_makeAgain_20 : decode cX7_makeAgain 20 = .ok (.invokestatic 35, 3) := by decide +kernel
theorem dX7_makeAgain_23 : decode cX7_makeAgain 23 = .ok (.iconst 0, 1) := by decide +kernel
theorem dX7_makeAgain_24 : decode cX7_makeAgain 24 = .ok (.istore 4, 2) := by decide +kernel
theorem dX7_makeAgain_26 : decode cX7_makeAgain 26 = .ok (.iload 4, 2) := by decide +kernel
theorem dX7_makeAgain_28 : decode cX7_makeAgain 28 = .ok (.bipush 13, 2) := by decide +kernel
theorem dX7_makeAgain_30 : decode cX7_makeAgain 30 = .ok (.if_icmp .ge 32, 3) := by decide +kernel
theorem dX7_makeAgain_33 : decode cX7_makeAgain 33 = .ok (.aload_n 0, 1) := by decide +kernel
theorem dX7_makeAgain_34 : decode cX7_makeAgain 34 = .ok (.getfield 9, 3) := by decide +kernel
theorem dX7_makeAgain_37 : decode cX7_makeAgain 37 = .ok (.iload_n 3, 1) := by decide +kernel
theorem dX7_makeAgain_38 : decode cX7_makeAgain 38 = .ok (.iconst 3, 1) := by decide +kernel
theorem dX7_makeAgain_39 : decode cX7_makeAgain 39 = .ok (.iload 4, 2) := by decide +kernel
theorem dX7_makeAgain_41 : decode cX7_makeAgain 41 = .ok (.imul, 1) := by decide +kernel
theorem dX7_makeAgain_42 : decode cX7_makeAgain 42 = .ok (.iadd, 1) := by decide +kernel
theorem dX7_makeAgain_43 : decode cX7_makeAgain 43 = .ok (.aload_n 0, 1) := by decide +kernel
theorem dX7_makeAgain_44 : decode cX7_makeAgain 44 = .ok (.aload_n 1, 1) := by decide +kernel
theorem dX7_makeAgain_45 : decode cX7_makeAgain 45 = .ok (.iload_n 2, 1) := by decide +kernel
theorem dX7_makeAgain_46 : decode cX7_makeAgain 46 = .ok (.iconst 4, 1) := by decide +kernel
theorem dX7_makeAgain_47 : decode cX7_makeAgain 47 = .ok (.iadd, 1) := by decide +kernel
theorem dX7_makeAgain_48 : decode cX7_makeAgain 48 = .ok (.iload 4, 2) := by decide +kernel
theorem dX7_makeAgain_50 : decode cX7_makeAgain 50 = .ok (.iadd, 1) := by decide +kernel
theorem dX7_makeAgain_51 : decode cX7_makeAgain 51 = .ok (.iaload, 1) := by decide +kernel
theorem dX7_makeAgain_52 : decode cX7_makeAgain 52 = .ok (.invokevirtual 41, 3) := by decide +kernel
theorem dX7_makeAgain_55 : decode cX7_makeAgain 55 = .ok (.iastore, 1) := by decide +kernel
theorem dX7_makeAgain_56 : decode cX7_makeAgain 56 = .ok (.iinc 4 1, 3) := by decide +kernel
theorem dX7_makeAgain_59 : decode cX7_makeAgain 59 = .ok (.goto (-33), 3) := by decide +kernel
theorem dX7_makeAgain_62 : decode cX7_makeAgain 62 = .ok (.return_, 1) := by decide +kernel
theorem dX7_made_0 : decode cX7_made 0 = .ok (.aload_n 0, 1) := by decide +kernel
theorem dX7_made_1 : decode cX7_made 1 = .ok (.getfield 15, 3) := by decide +kernel
theorem dX7_made_4 : decode cX7_made 4 = .ok (.ifCond .ne 7, 3) := by decide +kernel
theorem dX7_made_7 : decode cX7_made 7 = .ok (.iconst 0, 1) := by decide +kernel
theorem dX7_made_8 : decode cX7_made 8 = .ok (.goto 11, 3) := by decide +kernel
theorem dX7_made_11 : decode cX7_made 11 = .ok (.iconst 1, 1) := by decide +kernel
theorem dX7_made_12 : decode cX7_made 12 = .ok (.aload_n 0, 1) := by decide +kernel
theorem dX7_made_13 : decode cX7_made 13 = .ok (.getfield 15, 3) := by decide +kernel
theorem dX7_made_16 : decode cX7_made 16 = .ok (.iconst 1, 1) := by decide +kernel
theorem dX7_made_17 : decode cX7_made 17 = .ok (.isub, 1) := by decide +kernel
theorem dX7_made_18 : decode cX7_made 18 = .ok (.ishl, 1) := by decide +kernel
theorem dX7_made_19 : decode cX7_made 19 = .ok (.istore_n 2, 1) := by decide +kernel
theorem dX7_made_20 : decode cX7_made 20 = .ok (.getstatic 45, 3) := by decide +kernel
theorem dX7_made_23 : decode cX7_made 23 = .ok (.aload_n 0, 1) := by decide +kernel
theorem dX7_made_24 : decode cX7_made 24 = .ok (.getfield 19, 3) := by decide +kernel
theorem dX7_made_27 : decode cX7_made 27 = .ok (.iaload, 1) := by decide +kernel
theorem dX7_made_28 : decode cX7_made 28 = .ok (.iconst 2, 1) := by decide +kernel
theorem dX7_made_29 : decode cX7_made 29 = .ok (.iload_n 1, 1) := by decide +kernel
theorem dX7_made_30 : decode cX7_made 30 = .ok (.imul, 1) := by decide +kernel
theorem dX7_made_31 : decode cX7_made 31 = .ok (.bipush 7, 2) := by decide +kernel
theorem dX7_made_33 : decode cX7_made 33 = .ok (.isub, 1) := by decide +kernel
theorem dX7_made_34 : decode cX7_made 34 = .ok (.sipush 4096, 3) := by decide +kernel
theorem dX7_made_37 : decode cX7_made 37 = .ok (.imul, 1) := by decide +kernel
theorem dX7_made_38 : decode cX7_made 38 = .ok (.invokestatic 48, 3) := by decide +kernel
theorem dX7_made_41 : decode cX7_made 41 = .ok (.istore_n 3, 1) := by decide +kernel
theorem dX7_made_42 : decode cX7_made 42 = .ok (.iload_n 3, 1) := by decide +kernel
theorem dX7_made_43 : decode cX7_made 43 = .ok (.iload_n 2, 1) := by decide +kernel
theorem dX7_made_44 : decode cX7_made 44 = .ok (.iadd, 1) := by decide +kernel
theorem dX7_made_45 : decode cX7_made 45 = .ok (.invokestatic 51, 3) := by decide +kernel
theorem dX7_made_48 : decode cX7_made 48 = .ok (.aload_n 0, 1) := by decide +kernel
theorem dX7_made_49 : decode cX7_made 49 = .ok (.getfield 15, 3) := by decide +kernel
theorem dX7_made_52 : decode cX7_made 52 = .ok (.ishr, 1) := by decide +kernel
theorem dX7_made_53 : decode cX7_made 53 = .ok (.ireturn, 1) := by decide +kernel
theorem dX8_init_0 : decode cX8_init 0 = .ok (.aload_n 0, 1) := by decide +kernel
theorem dX8_init_1 : decode cX8_init 1 = .ok (.invokespecial 3, 3) := by decide +kernel
theorem dX8_init_4 : decode cX8_init 4 = .ok (.aload_n 0, 1) := by decide +kernel
theorem dX8_init_5 : decode cX8_init 5 = .ok (.bipush 40, 2) := by decide +kernel
theorem dX8_init_7 : decode cX8_init 7 = .ok (.newarray .int, 2) := by decide +kernel
theorem dX8_init_9 : decode cX8_init 9 = .ok (.putfield 9, 3) := by decide +kernel
theorem dX8_init_12 : decode cX8_init 12 = .ok (.return_, 1) := by decide +kernel
theorem dX8_find_0 : decode cX8_find 0 = .ok (.iload_n 2, 1) := by decide +kernel
theorem dX8_find_1 : decode cX8_find 1 = .ok (.invokestatic 15, 3) := by decide +kernel
theorem dX8_find_4 : decode cX8_find 4 = .ok (.istore 4, 2) := by decide +kernel
theorem dX8_find_6 : decode cX8_find 6 = .ok (.aload_n 0, 1) := by decide +kernel
theorem dX8_find_7 : decode cX8_find 7 = .ok (.aload_n 1, 1) := by decide +kernel
theorem dX8_find_8 : decode cX8_find 8 = .ok (.bipush 40, 2) := by decide +kernel
theorem dX8_find_10 : decode cX8_find 10 = .ok (.iload_n 2, 1) := by decide +kernel
theorem dX8_find_11 : decode cX8_find 11 = .ok (.imul, 1) := by decide +kernel
theorem dX8_find_12 : decode cX8_find 12 = .ok (.invokevirtual 21, 3) := by decide +kernel
theorem dX8_find_15 : decode cX8_find 15 = .ok (.istore 5, 2) := by decide +kernel
theorem dX8_find_17 : decode cX8_find 17 = .ok (.iconst 0, 1) := by decide +kernel
theorem dX8_find_18 : decode cX8_find 18 = .ok (.istore 6, 2) := by decide +kernel
theorem dX8_find_20 : decode cX8_find 20 = .ok (.aload_n 0, 1) := by decide +kernel
theorem dX8_find_21 : decode cX8_find 21 = .ok (.bipush 40, 2) := by decide +kernel
theorem dX8_find_23 : decode cX8_find 23 = .ok (.putfield 25, 3) := by decide +kernel
theorem dX8_find_26 : decode cX8_find 26 = .ok (.bipush 40, 2) := by decide +kernel
theorem dX8_find_28 : decode cX8_find 28 = .ok (.istore 7, 2) := by decide +kernel
theorem dX8_find_30 : decode cX8_find 30 = .ok (.iload 7, 2) := by decide +kernel
theorem dX8_find_32 : decode cX8_find 32 = .ok (.bipush 120, 2) := by decide +kernel
theorem dX8_find_34 : decode cX8_find 34 = .ok (.if_icmp .gt 41, 3) := by decide +kernel
theorem dX8_find_37 : decode cX8_find 37 = .ok (.aload_n 0, 1) := by decide +kernel
theorem dX8_find_38 : decode cX8_find 38 = .ok (.aload_n 3, 1) := by decide +kernel
theorem dX8_find_39 : decode cX8_find 39 = .ok (.getfield 29, 3) := by decide +kernel
theorem dX8_find_42 : decode cX8_find 42 = .ok (.iload 4, 2) := by decide +kernel
theorem dX8_find_44 : decode cX8_find 44 = .ok (.iload 7, 2) := by decide +kernel
theorem dX8_find_46 : decode cX8_find 46 = .ok (.isub, 1) := by decide +kernel
theorem dX8_find_47 : decode cX8_find 47 = .ok (.invokevirtual 32, 3) := by decide +kernel
theorem dX8_find_50 : decode cX8_find 50 = .ok (.istore 8, 2) := by decide +kernel
theorem dX8_find_52 : decode cX8_find 52 = .ok (.iload 8, 2) := by decide +kernel
theorem dX8_find_54 : decode cX8_find 54 = .ok (.iload 6, 2) := by decide +kernel
theorem dX8_find_56 : decode cX8_find 56 = .ok (.if_icmp .le 13, 3) := by decide +kernel
theorem dX8_find_59 : decode cX8_find 59 = .ok (.iload 8, 2) := by decide +kernel
theorem dX8_find_61 : decode cX8_find 61 = .ok (.istore 6, 2) := by decide +kernel
theorem dX8_find_63 : decode cX8_find 63 = .ok (.aload_n 0, 1) := by decide +kernel
theorem dX8_find_64 : decode cX8_find 64 = .ok (.iload 7, 2) := by decide +kernel
theorem dX8_find_66 : decode cX8_find 66 = .ok (.putfield 25, 3) := by decide +kernel
theorem dX8_find_69 : decode cX8_find 69 = .ok (.iinc 7 1, 3) := by decide +kernel
theorem dX8_find_72 : decode cX8_find 72 = .ok (.goto (-42), 3) := by decide +kernel
theorem dX8_find_75 : decode cX8_find 75 = .ok (.aload_n 0, 1) := by decide +kernel
theorem dX8_find_76 : decode cX8_find 76 = .ok (.iconst 2, 1) := by decide +kernel
theorem dX8_find_77 : decode cX8_find 77 = .ok (.iload 6, 2) := by decide +kernel
theorem dX8_find_79 : decode cX8_find 79 = .ok (.imul, 1) := by decide +kernel
theorem dX8_find_80 : decode cX8_find 80 = .ok (.bipush 6, 2) := by decide +kernel
theorem dX8_find_82 : decode cX8_find 82 = .ok (.iload 5, 2) := by decide +kernel
theorem dX8_find_84 : decode cX8_find 84 = .ok (.isub, 1) := by decide +kernel
theorem dX8_find_85 : decode cX8_find 85 = .ok (.ishr, 1) := by decide +kernel
theorem dX8_find_86 : decode cX8_find 86 = .ok (.aload_n 3, 1) := by decide +kernel
theorem dX8_find_87 : decode cX8_find 87 = .ok (.getfield 29, 3) := by decide +kernel
theorem dX8_find_90 : decode cX8_find 90 = .ok (.iload 4, 2) := by decide +kernel
theorem dX8_find_92 : decode cX8_find 92 = .ok (.aload_n 0, 1) := by decide +kernel
theorem dX8_find_93 : decode cX8_find 93 = .ok (.getfield 25, 3) := by decide +kernel
theorem dX8_find_96 : decode cX8_find 96 = .ok (.isub, 1) := by decide +kernel
theorem dX8_find_97 : decode cX8_find 97 = .ok (.invokestatic 35, 3) := by decide +kernel
theorem dX8_find_100 : decode cX8_find 100 = .ok (.invokestatic 38, 3) := by decide +kernel
theorem dX8_find_103 : decode cX8_find 103 = .ok (.putfield 42, 3) := by decide +kernel
theorem dX8_find_106 : decode cX8_find 106 = .ok (.return_, 1) := by decide +kernel
theorem dX8_lower_0 : decode cX8_lower 0 = .ok (.aload_n 1, 1) := by decide +kernel
theorem dX8_lower_1 : decode cX8_lower 1 = .ok (.iload_n 2, 1) := by decide +kernel
theorem dX8_lower_2 : decode cX8_lower 2 = .ok (.iconst 1, 1) := by decide +kernel
theorem dX8_lower_3 : decode cX8_lower 3 = .ok (.bipush 40, 2) := by decide +kernel
theorem dX8_lower_5 : decode cX8_lower 5 = .ok (.invokestatic 45, 3) := by decide +kernel
theorem dX8_lower_8 : decode cX8_lower 8 = .ok (.istore_n 3, 1) := by decide +kernel
theorem dX8_lower_9 : decode cX8_lower 9 = .ok (.iload_n 3, 1) := by decide +kernel
theorem dX8_lower_10 : decode cX8_lower 10 = .ok (.ifCond .ne 8, 3) := by decide +kernel
theorem dX8_lower_13 : decode cX8_lower 13 = .ok (.bipush 6, 2) := by decide +kernel
theorem dX8_lower_15 : decode cX8_lower 15 = .ok (.goto 10, 3) := by decide +kernel
theorem dX8_lower_18 : decode cX8_lower 18 = .ok (.iload_n 3, 1) := by decide +kernel
theorem dX8_lower_19 : decode cX8_lower 19 = .ok (.bipush 16, 2) := by decide +kernel
theorem dX8_lower_21 : decode cX8_lower 21 = .ok (.ishl, 1) := by decide +kernel
theorem dX8_lower_22 : decode cX8_lower 22 = .ok (.invokestatic 51, 3) := by decide +kernel
theorem dX8_lower_25 : decode cX8_lower 25 = .ok (.istore 4, 2) := by decide +kernel
theorem dX8_lower_27 : decode cX8_lower 27 = .ok (.iload 4, 2) := by decide +kernel
theorem dX8_lower_29 : decode cX8_lower 29 = .ok (.bipush 6, 2) := by decide +kernel
theorem dX8_lower_31 : decode cX8_lower 31 = .ok (.if_icmp .le 7, 3) := by decide +kernel
theorem dX8_lower_34 : decode cX8_lower 34 = .ok (.iconst 0, 1) := by decide +kernel
theorem dX8_lower_35 : decode cX8_lower 35 = .ok (.goto 8, 3) := by decide +kernel
theorem dX8_lower_38 : decode cX8_lower 38 = .ok (.bipush 6, 2) := by decide +kernel
theorem dX8_lower_40 : decode cX8_lower 40 = .ok (.iload 4, 2) := by decide +kernel
theorem dX8_lower_42 : decode cX8_lower 42 = .ok (.isub, 1) := by decide +kernel
theorem dX8_lower_43 : decode cX8_lower 43 = .ok (.istore 5, 2) := by decide +kernel
theorem dX8_lower_45 : decode cX8_lower 45 = .ok (.iconst 0, 1) := by decide +kernel
theorem dX8_lower_46 : decode cX8_lower 46 = .ok (.istore 6, 2) := by decide +kernel
theorem dX8_lower_48 : decode cX8_lower 48 = .ok (.iload 6, 2) := by decide +kernel
theorem dX8_lower_50 : decode cX8_lower 50 = .ok (.bipush 40, 2) := by decide +kernel
theorem dX8_lower_52 : decode cX8_lower 52 = .ok (.if_icmp .ge 25, 3) := by decide +kernel
theorem dX8_lower_55 : decode cX8_lower 55 = .ok (.aload_n 0, 1) := by decide +kernel
theorem dX8_lower_56 : decode cX8_lower 56 = .ok (.getfield 9, 3) := by decide +kernel
theorem dX8_lower_59 : decode cX8_lower 59 = .ok (.iload 6, 2) := by decide +kernel
theorem dX8_lower_61 : decode cX8_lower 61 = .ok (.aload_n 1, 1) := by decide +kernel
theorem dX8_lower_62 : decode cX8_lower 62 = .ok (.iload_n 2, 1) := by decide +kernel
theorem dX8_lower_63 : decode cX8_lower 63 = .ok (.iload 6, 2) := by decide +kernel
theorem dX8_lower_65 : decode cX8_lower 65 = .ok (.iadd, 1) := by decide +kernel
theorem dX8_lower_66 : decode cX8_lower 66 = .ok (.iaload, 1) := by decide +kernel
theorem dX8_lower_67 : decode cX8_lower 67 = .ok (.iload 5, 2) := by decide +kernel
theorem dX8_lower_69 : decode cX8_lower 69 = .ok (.ishr, 1) := by decide +kernel
theorem dX8_lower_70 : decode cX8_lower 70 = .ok (.iastore, 1) := by decide +kernel
theorem dX8_lower_71 : decode cX8_lower 71 = .ok (.iinc 6 1, 3) := by decide +kernel
theorem dX8_lower_74 : decode cX8_lower 74 = .ok (.goto (-26), 3) := by decide +kernel
theorem dX8_lower_77 : decode cX8_lower 77 = .ok (.iload 5, 2) := by decide +kernel
theorem dX8_lower_79 : decode cX8_lower 79 = .ok (.ireturn, 1) := by decide +kernel
theorem dX8_likeness_0 : decode cX8_likeness 0 = .ok (.iconst 0, 1) := by decide +kernel
theorem dX8_likeness_1 : decode cX8_likeness 1 = .ok (.istore_n 3, 1) := by decide +kernel
theorem dX8_likeness_2 : decode cX8_likeness 2 = .ok (.iconst 0, 1) := by decide +kernel
theorem dX8_likeness_3 : decode cX8_likeness 3 = .ok (.istore 4, 2) := by decide +kernel
theorem dX8_likeness_5 : decode cX8_likeness 5 = .ok (.iload 4, 2) := by decide +kernel
theorem dX8_likeness_7 : decode cX8_likeness 7 = .ok (.bipush 40, 2) := by decide +kernel
theorem dX8_likeness_9 : decode cX8_likeness 9 = .ok (.if_icmp .ge 26, 3) := by decide +kernel
theorem dX8_likeness_12 : decode cX8_likeness 12 = .ok (.iload_n 3, 1) := by decide +kernel
theorem dX8_likeness_13 : decode cX8_likeness 13 = .ok (.aload_n 0, 1) := by decide +kernel
theorem dX8_likeness_14 : decode cX8_likeness 14 = .ok (.getfield 9, 3) := by decide +kernel
theorem dX8_likeness_17 : decode cX8_likeness 17 = .ok (.iload 4, 2) := by decide +kernel
theorem dX8_likeness_19 : decode cX8_likeness 19 = .ok (.iaload, 1) := by decide +kernel
theorem dX8_likeness_20 : decode cX8_likeness 20 = .ok (.aload_n 1, 1) := by decide +kernel
theorem dX8_likeness_21 : decode cX8_likeness 21 = .ok (.iload_n 2, 1) := by decide +kernel
theorem dX8_likeness_22 : decode cX8_likeness 22 = .ok (.iload 4, 2) := by decide +kernel
theorem dX8_likeness_24 : decode cX8_likeness 24 = .ok (.iadd, 1) := by decide +kernel
theorem dX8_likeness_25 : decode cX8_likeness 25 = .ok (.iaload, 1) := by decide +kernel
theorem dX8_likeness_26 : decode cX8_likeness 26 = .ok (.imul, 1) := by decide +kernel
theorem dX8_likeness_27 : decode cX8_likeness 27 = .ok (.iadd, 1) := by decide +kernel
theorem dX8_likeness_28 : decode cX8_likeness 28 = .ok (.istore_n 3, 1) := by decide +kernel
theorem dX8_likeness_29 : decode cX8_likeness 29 = .ok (.iinc 4 1, 3) := by decide +kernel
theorem dX8_likeness_32 : decode cX8_likeness 32 = .ok (.goto (-27), 3) := by decide +kernel
theorem dX8_likeness_35 : decode cX8_likeness 35 = .ok (.iload_n 3, 1) := by decide +kernel
theorem dX8_likeness_36 : decode cX8_likeness 36 = .ok (.ireturn, 1) := by decide +kernel
theorem dX8_power_0 : decode cX8_power 0 = .ok (.iconst 0, 1) := by decide +kernel
theorem dX8_power_1 : decode cX8_power 1 = .ok (.istore_n 2, 1) := by decide +kernel
theorem dX8_power_2 : decode cX8_power 2 = .ok (.iconst 0, 1) := by decide +kernel
theorem dX8_power_3 : decode cX8_power 3 = .ok (.istore_n 3, 1) := by decide +kernel
theorem dX8_power_4 : decode cX8_power 4 = .ok (.iload_n 3, 1) := by decide +kernel
theorem dX8_power_5 : decode cX8_power 5 = .ok (.bipush 40, 2) := by decide +kernel
theorem dX8_power_7 : decode cX8_power 7 = .ok (.if_icmp .ge 26, 3) := by decide +kernel
theorem dX8_power_10 : decode cX8_power 10 = .ok (.aload_n 0, 1) := by decide +kernel
theorem dX8_power_11 : decode cX8_power 11 = .ok (.iload_n 1, 1) := by decide +kernel
theorem dX8_power_12 : decode cX8_power 12 = .ok (.iload_n 3, 1) := by decide +kernel
theorem dX8_power_13 : decode cX8_power 13 = .ok (.iadd, 1) := by decide +kernel
theorem dX8_power_14 : decode cX8_power 14 = .ok (.iaload, 1) := by decide +kernel
theorem dX8_power_15 : decode cX8_power 15 = .ok (.iconst 3, 1) := by decide +kernel
theorem dX8_power_16 : decode cX8_power 16 = .ok (.ishr, 1) := by decide +kernel
theorem dX8_power_17 : decode cX8_power 17 = .ok (.istore 4, 2) := by decide +kernel
theorem dX8_power_19 : decode cX8_power 19 = .ok (.iload_n 2, 1) := by decide +kernel
theorem dX8_power_20 : decode cX8_power 20 = .ok (.iload 4, 2) := by decide +kernel
theorem dX8_power_22 : decode cX8_power 22 = .ok (.iload 4, 2) := by decide +kernel
theorem dX8_power_24 : decode cX8_power 24 = .ok (.imul, 1) := by decide +kernel
theorem dX8_power_25 : decode cX8_power 25 = .ok (.iadd, 1) := by decide +kernel
theorem dX8_power_26 : decode cX8_power 26 = .ok (.istore_n 2, 1) := by decide +kernel
theorem dX8_power_27 : decode cX8_power 27 = .ok (.iinc 3 1, 3) := by decide +kernel
theorem dX8_power_30 : decode cX8_power 30 = .ok (.goto (-26), 3) := by decide +kernel
theorem dX8_power_33 : decode cX8_power 33 = .ok (.iconst 2, 1) := by decide +kernel
theorem dX8_power_34 : decode cX8_power 34 = .ok (.iload_n 2, 1) := by decide +kernel
theorem dX8_power_35 : decode cX8_power 35 = .ok (.imul, 1) := by decide +kernel
theorem dX8_power_36 : decode cX8_power 36 = .ok (.ireturn, 1) := by decide +kernel
theorem dX8_gainOf_0 : decode cX8_gainOf 0 = .ok (.iload_n 0, 1) := by decide +kernel
theorem dX8_gainOf_1 : decode cX8_gainOf 1 = .ok (.ifCond .ne 5, 3) := by decide +kernel
theorem dX8_gainOf_4 : decode cX8_gainOf 4 = .ok (.iconst 0, 1) := by decide +kernel
theorem dX8_gainOf_5 : decode cX8_gainOf 5 = .ok (.ireturn, 1) := by decide +kernel
theorem dX8_gainOf_6 : decode cX8_gainOf 6 = .ok (.iload_n 0, 1) := by decide +kernel
theorem dX8_gainOf_7 : decode cX8_gainOf 7 = .ok (.iload_n 1, 1) := by decide +kernel
theorem dX8_gainOf_8 : decode cX8_gainOf 8 = .ok (.if_icmp .lt 5, 3) := by decide +kernel
theorem dX8_gainOf_11 : decode cX8_gainOf 11 = .ok (.iconst 3, 1) := by decide +kernel
theorem dX8_gainOf_12 : decode cX8_gainOf 12 = .ok (.ireturn, 1) := by decide +kernel
theorem dX8_gainOf_13 : decode cX8_gainOf 13 = .ok (.iload_n 1, 1) := by decide +kernel
theorem dX8_gainOf_14 : decode cX8_gainOf 14 = .ok (.invokestatic 51, 3) := by decide +kernel
theorem dX8_gainOf_17 : decode cX8_gainOf 17 = .ok (.istore_n 2, 1) := by decide +kernel
theorem dX8_gainOf_18 : decode cX8_gainOf 18 = .ok (.iload_n 0, 1) := by decide +kernel
theorem dX8_gainOf_19 : decode cX8_gainOf 19 = .ok (.iload_n 2, 1) := by decide +kernel
theorem dX8_gainOf_20 : decode cX8_gainOf 20 = .ok (.ishl, 1) := by decide +kernel
theorem dX8_gainOf_21 : decode cX8_gainOf 21 = .ok (.bipush 16, 2) := by decide +kernel
theorem dX8_gainOf_23 : decode cX8_gainOf 23 = .ok (.ishr, 1) := by decide +kernel
theorem dX8_gainOf_24 : decode cX8_gainOf 24 = .ok (.istore_n 3, 1) := by decide +kernel
theorem dX8_gainOf_25 : decode cX8_gainOf 25 = .ok (.iload_n 1, 1) := by decide +kernel
theorem dX8_gainOf_26 : decode cX8_gainOf 26 = .ok (.iload_n 2, 1) := by decide +kernel
theorem dX8_gainOf_27 : decode cX8_gainOf 27 = .ok (.ishl, 1) := by decide +kernel
theorem dX8_gainOf_28 : decode cX8_gainOf 28 = .ok (.bipush 16, 2) := by decide +kernel
theorem dX8_gainOf_30 : decode cX8_gainOf 30 = .ok (.ishr, 1) := by decide +kernel
theorem dX8_gainOf_31 : decode cX8_gainOf 31 = .ok (.istore 4, 2) := by decide +kernel
theorem dX8_gainOf_33 : decode cX8_gainOf 33 = .ok (.iconst 0, 1) := by decide +kernel
theorem dX8_gainOf_34 : decode cX8_gainOf 34 = .ok (.istore 5, 2) := by decide +kernel
theorem dX8_gainOf_36 : decode cX8_gainOf 36 = .ok (.iload 5, 2) := by decide +kernel
theorem dX8_gainOf_38 : decode cX8_gainOf 38 = .ok (.getstatic 54, 3) := by decide +kernel
theorem dX8_gainOf_41 : decode cX8_gainOf 41 = .ok (.arraylength, 1) := by decide +kernel
theorem dX8_gainOf_42 : decode cX8_gainOf 42 = .ok (.if_icmp .ge 27, 3) := by decide +kernel
theorem dX8_gainOf_45 : decode cX8_gainOf 45 = .ok (.iload_n 3, 1) := by decide +kernel
theorem dX8_gainOf_46 : decode cX8_gainOf 46 = .ok (.iload 4, 2) := by decide +kernel
theorem dX8_gainOf_48 : decode cX8_gainOf 48 = .ok (.getstatic 54, 3) := by decide +kernel
theorem dX8_gainOf_51 : decode cX8_gainOf 51 = .ok (.iload 5, 2) := by decide +kernel
theorem dX8_gainOf_53 : decode cX8_gainOf 53 = .ok (.iaload, 1) := by decide +kernel
theorem dX8_gainOf_54 : decode cX8_gainOf 54 = .ok (.invokestatic 57, 3) := by decide +kernel
theorem dX8_gainOf_57 : decode cX8_gainOf 57 = .ok (.if_icmp .gt 6, 3) := by decide +kernel
theorem dX8_gainOf_60 : decode cX8_gainOf 60 = .ok (.iload 5, 2) := by decide +kernel
theorem dX8_gainOf_62 : decode cX8_gainOf 62 = .ok (.ireturn, 1) := by decide +kernel
theorem dX8_gainOf_63 : decode cX8_gainOf 63 = .ok (.iinc 5 1, 3) := by decide +kernel
theorem dX8_gainOf_66 : decode cX8_gainOf 66 = .ok (.goto (-30), 3) := by decide +kernel
theorem dX8_gainOf_69 : decode cX8_gainOf 69 = .ok (.iconst 3, 1) := by decide +kernel
theorem dX8_gainOf_70 : decode cX8_gainOf 70 = .ok (.ireturn, 1) := by decide +kernel
theorem dX9_init_0 : decode cX9_init 0 = .ok (.aload_n 0, 1) := by decide +kernel
theorem dX9_init_1 : decode cX9_init 1 = .ok (.invokespecial 3, 3) := by decide +kernel
theorem dX9_init_4 : decode cX9_init 4 = .ok (.aload_n 0, 1) := by decide +kernel
theorem dX9_init_5 : decode cX9_init 5 = .ok (.bipush 50, 2) := by decide +kernel
theorem dX9_init_7 : decode cX9_init 7 = .ok (.newarray .int, 2) := by decide +kernel
theorem dX9_init_9 : decode cX9_init 9 = .ok (.putfield 11, 3) := by decide +kernel
theorem dX9_init_12 : decode cX9_init 12 = .ok (.aload_n 0, 1) := by decide +kernel
theorem dX9_init_13 : decode cX9_init 13 = .ok (.bipush 40, 2) := by decide +kernel
theorem dX9_init_15 : decode cX9_init 15 = .ok (.newarray .int, 2) := by decide +kernel
theorem dX9_init_17 : decode cX9_init 17 = .ok (.putfield 15, 3) := by decide +kernel
theorem dX9_init_20 : decode cX9_init 20 = .ok (.return_, 1) := by decide +kernel
theorem dX9_thin_0 : decode cX9_thin 0 = .ok (.iconst 0, 1) := by decide +kernel
theorem dX9_thin_1 : decode cX9_thin 1 = .ok (.istore 4, 2) := by decide +kernel
theorem dX9_thin_3 : decode cX9_thin 3 = .ok (.iload 4, 2) := by decide +kernel
theorem dX9_thin_5 : decode cX9_thin 5 = .ok (.bipush 40, 2) := by decide +kernel
theorem dX9_thin_7 : decode cX9_thin 7 = .ok (.if_icmp .ge 35, 3) := by decide +kernel
theorem dX9_thin_10 : decode cX9_thin 10 = .ok (.aload_n 0, 1) := by decide +kernel
theorem dX9_thin_11 : decode cX9_thin 11 = .ok (.getfield 11, 3) := by decide +kernel
theorem dX9_thin_14 : decode cX9_thin 14 = .ok (.iconst 5, 1) := by decide +kernel
theorem dX9_thin_15 : decode cX9_thin 15 = .ok (.iload 4, 2) := by decide +kernel
theorem dX9_thin_17 : decode cX9_thin 17 = .ok (.iadd, 1) := by decide +kernel
theorem dX9_thin_18 : decode cX9_thin 18 = .ok (.aload_n 1, 1) := by decide +kernel
theorem dX9_thin_19 : decode cX9_thin 19 = .ok (.bipush 40, 2) := by decide +kernel
theorem dX9_thin_21 : decode cX9_thin 21 = .ok (.iload_n 2, 1) := by decide +kernel
theorem dX9_thin_22 : decode cX9_thin 22 = .ok (.imul, 1) := by decide +kernel
theorem dX9_thin_23 : decode cX9_thin 23 = .ok (.iload 4, 2) := by decide +kernel
theorem dX9_thin_25 : decode cX9_thin 25 = .ok (.iadd, 1) := by decide +kernel
theorem dX9_thin_26 : decode cX9_thin 26 = .ok (.iaload, 1) := by decide +kernel
theorem dX9_thin_27 : decode cX9_thin 27 = .ok (.aload_n 3, 1) := by decide +kernel
theorem dX9_thin_28 : decode cX9_thin 28 = .ok (.iload 4, 2) := by decide +kernel
theorem dX9_thin_30 : decode cX9_thin 30 = .ok (.iaload, 1) := by decide +kernel
theorem dX9_thin_31 : decode cX9_thin 31 = .ok (.isub, 1) := by decide +kernel
theorem dX9_thin_32 : decode cX9_thin 32 = .ok (.invokestatic 18, 3) := by decide +kernel
theorem dX9_thin_35 : decode cX9_thin 35 = .ok (.iastore, 1) := by decide +kernel
theorem dX9_thin_36 : decode cX9_thin 36 = .ok (.iinc 4 1, 3) := by decide +kernel
theorem dX9_thin_39 : decode cX9_thin 39 = .ok (.goto (-36), 3) := by decide +kernel
theorem dX9_thin_42 : decode cX9_thin 42 = .ok (.iconst 0, 1) := by decide +kernel
theorem dX9_thin_43 : decode cX9_thin 43 = .ok (.istore 4, 2) := by decide +kernel
theorem dX9_thin_45 : decode cX9_thin 45 = .ok (.iload 4, 2) := by decide +kernel
theorem dX9_thin_47 : decode cX9_thin 47 = .ok (.bipush 40, 2) := by decide +kernel
theorem dX9_thin_49 : decode cX9_thin 49 = .ok (.if_icmp .ge 22, 3) := by decide +kernel
theorem dX9_thin_52 : decode cX9_thin 52 = .ok (.aload_n 0, 1) := by decide +kernel
theorem dX9_thin_53 : decode cX9_thin 53 = .ok (.getfield 15, 3) := by decide +kernel
theorem dX9_thin_56 : decode cX9_thin 56 = .ok (.iload 4, 2) := by decide +kernel
theorem dX9_thin_58 : decode cX9_thin 58 = .ok (.aload_n 0, 1) := by decide +kernel
theorem dX9_thin_59 : decode cX9_thin 59 = .ok (.iload 4, 2) := by decide +kernel
theorem dX9_thin_61 : decode cX9_thin 61 = .ok (.invokevirtual 24, 3) := by decide +kernel
theorem dX9_thin_64 : decode cX9_thin 64 = .ok (.iastore, 1) := by decide +kernel
theorem dX9_thin_65 : decode cX9_thin 65 = .ok (.iinc 4 1, 3) := by decide +kernel
theorem dX9_thin_68 : decode cX9_thin 68 = .ok (.goto (-23), 3) := by decide +kernel
theorem dX9_thin_71 : decode cX9_thin 71 = .ok (.aload_n 0, 1) := by decide +kernel
theorem dX9_thin_72 : decode cX9_thin 72 = .ok (.aload_n 0, 1) := by decide +kernel
theorem dX9_thin_73 : decode cX9_thin 73 = .ok (.invokevirtual 27, 3) := by decide +kernel
theorem dX9_thin_76 : decode cX9_thin 76 = .ok (.putfield 31, 3) := by decide +kernel
theorem dX9_thin_79 : decode cX9_thin 79 = .ok (.aload_n 0, 1) := by decide +kernel
theorem dX9_thin_80 : decode cX9_thin 80 = .ok (.aload_n 0, 1) := by decide +kernel
theorem dX9_thin_81 : decode cX9_thin 81 = .ok (.getfield 15, 3) := by decide +kernel
theorem dX9_thin_84 : decode cX9_thin 84 = .ok (.aload_n 0, 1) := by decide +kernel
theorem dX9_thin_85 : decode cX9_thin 85 = .ok (.getfield 31, 3) := by decide +kernel
theorem dX9_thin_88 : decode cX9_thin 88 = .ok (.iconst 3, 1) := by decide +kernel
theorem dX9_thin_89 : decode cX9_thin 89 = .ok (.bipush 13, 2) := by decide +kernel
theorem dX9_thin_91 : decode cX9_thin 91 = .ok (.invokestatic 35, 3) := by decide +kernel
theorem dX9_thin_94 : decode cX9_thin 94 = .ok (.invokestatic 39, 3) := by decide +kernel
theorem dX9_thin_97 : decode cX9_thin 97 = .ok (.putfield 42, 3) := by decide +kernel
theorem dX9_thin_100 : decode cX9_thin 100 = .ok (.return_, 1) := by decide +kernel
theorem dX9_filtered_0 : decode cX9_filtered 0 = .ok (.sipush 4096, 3) := by decide +kernel
theorem dX9_filtered_3 : decode cX9_filtered 3 = .ok (.istore_n 2, 1) := by decide +kernel
theorem dX9_filtered_4 : decode cX9_filtered 4 = .ok (.iconst 0, 1) := by decide +kernel
theorem dX9_filtered_5 : decode cX9_filtered 5 = .ok (.istore_n 3, 1) := by decide +kernel
theorem dX9_filtered_6 : decode cX9_filtered 6 = .ok (.iload_n 3, 1) := by decide +kernel
theorem dX9_filtered_7 : decode cX9_filtered 7 = .ok (.getstatic 45, 3) := by decide +kernel
theorem dX9_filtered_10 : decode cX9_filtered 10 = .ok (.arraylength, 1) := by decide +kernel
theorem dX9_filtered_11 : decode cX9_filtered 11 = .ok (.if_icmp .ge 26, 3) := by decide +kernel
theorem dX9_filtered_14 : decode cX9_filtered 14 = .ok (.iload_n 2, 1) := by decide +kernel
theorem dX9_filtered_15 : decode cX9_filtered 15 = .ok (.getstatic 45, 3) := by decide +kernel
theorem dX9_filtered_18 : decode cX9_filtered 18 = .ok (.iload_n 3, 1) := by decide +kernel
theorem dX9_filtered_19 : decode cX9_filtered 19 = .ok (.iaload, 1) := by decide +kernel
theorem dX9_filtered_20 : decode cX9_filtered 20 = .ok (.aload_n 0, 1) := by decide +kernel
theorem dX9_filtered_21 : decode cX9_filtered 21 = .ok (.getfield 11, 3) := by decide +kernel
theorem dX9_filtered_24 : decode cX9_filtered 24 = .ok (.iload_n 1, 1) := by decide +kernel
theorem dX9_filtered_25 : decode cX9_filtered 25 = .ok (.iload_n 3, 1) := by decide +kernel
theorem dX9_filtered_26 : decode cX9_filtered 26 = .ok (.iadd, 1) := by decide +kernel
theorem dX9_filtered_27 : decode cX9_filtered 27 = .ok (.iaload, 1) := by decide +kernel
theorem dX9_filtered_28 : decode cX9_filtered 28 = .ok (.imul, 1) := by decide +kernel
theorem dX9_filtered_29 : decode cX9_filtered 29 = .ok (.iadd, 1) := by decide +kernel
theorem dX9_filtered_30 : decode cX9_filtered 30 = .ok (.istore_n 2, 1) := by decide +kernel
theorem dX9_filtered_31 : decode cX9_filtered 31 = .ok (.iinc 3 1, 3) := by decide +kernel
theorem dX9_filtered_34 : decode cX9_filtered 34 = .ok (.goto (-28), 3) := by decide +kernel
theorem dX9_filtered_37 : decode cX9_filtered 37 = .ok (.iload_n 2, 1) := by decide +kernel
theorem dX9_filtered_38 : decode cX9_filtered 38 = .ok (.bipush 13, 2) := by decide +kernel
theorem dX9_filtered_40 : decode cX9_filtered 40 = .ok (.ishr, 1) := by decide +kernel
theorem dX9_filtered_41 : decode cX9_filtered 41 = .ok (.invokestatic 18, 3) := by decide +kernel
theorem dX9_filtered_44 : decode cX9_filtered 44 = .ok (.ireturn, 1) := by decide +kernel
theorem dX9_loudestGrid_0 : decode cX9_loudestGrid 0 = .ok (.iconst 0, 1) := by decide +kernel
theorem dX9_loudestGrid_1 : decode cX9_loudestGrid 1 = .ok (.istore_n 1, 1) := by decide +kernel
theorem dX9_loudestGrid_2 : decode cX9_loudestGrid 2 = .ok (.iconst 0, 1) := by decide +kernel
theorem dX9_loudestGrid_3 : decode cX9_loudestGrid 3 = .ok (.istore_n 2, 1) := by decide +kernel
theorem dX9_loudestGrid_4 : decode cX9_loudestGrid 4 = .ok (.iconst 0, 1) := by decide +kernel
theorem dX9_loudestGrid_5 : decode cX9_loudestGrid 5 = .ok (.istore_n 3, 1) := by decide +kernel
theorem dX9_loudestGrid_6 : decode cX9_loudestGrid 6 = .ok (.iload_n 3, 1) := by decide +kernel
theorem dX9_loudestGrid_7 : decode cX9_loudestGrid 7 = .ok (.iconst 4, 1) := by decide +kernel
theorem dX9_loudestGrid_8 : decode cX9_loudestGrid 8 = .ok (.if_icmp .ge 64, 3) := by decide +kernel
theorem dX9_loudestGrid_11 : decode cX9_loudestGrid 11 = .ok (.iconst 0, 1) := by decide +kernel
theorem dX9_loudestGrid_12 : decode cX9_loudestGrid 12 = .ok (.istore 4, 2) := by decide +kernel
theorem dX9_loudestGrid_14 : decode cX9_loudestGrid 14 = .ok (.iconst 0, 1) := by decide +kernel
theorem dX9_loudestGrid_15 : decode cX9_loudestGrid 15 = .ok (.istore 5, 2) := by decide +kernel
theorem dX9_loudestGrid_17 : decode cX9_loudestGrid 17 = .ok (.iload 5, 2) := by decide +kernel
theorem dX9_loudestGrid_19 : decode cX9_loudestGrid 19 = .ok (.bipush 13, 2) := by decide +kernel
theorem dX9_loudestGrid_21 : decode cX9_loudestGrid 21 = .ok (.if_icmp .ge 34, 3) := by decide +kernel
theorem dX9_loudestGrid_24 : decode cX9_loudestGrid 24 = .ok (.aload_n 0, 1) := by decide +kernel
theorem dX9_loudestGrid_25 : decode cX9_loudestGrid 25 = .ok (.getfield 15, 3) := by decide +kernel
theorem dX9_loudestGrid_28 : decode cX9_loudestGrid 28 = .ok (.iload_n 3, 1) := by decide +kernel
theorem dX9_loudestGrid_29 : decode cX9_loudestGrid 29 = .ok (.iconst 3, 1) := by decide +kernel
theorem dX9_loudestGrid_30 : decode cX9_loudestGrid 30 = .ok (.iload 5, 2) := by decide +kernel
theorem dX9_loudestGrid_32 : decode cX9_loudestGrid 32 = .ok (.imul, 1) := by decide +kernel
theorem dX9_loudestGrid_33 : decode cX9_loudestGrid 33 = .ok (.iadd, 1) := by decide +kernel
theorem dX9_loudestGrid_34 : decode cX9_loudestGrid 34 = .ok (.iaload, 1) := by decide +kernel
theorem dX9_loudestGrid_35 : decode cX9_loudestGrid 35 = .ok (.iconst 2, 1) := by decide +kernel
theorem dX9_loudestGrid_36 : decode cX9_loudestGrid 36 = .ok (.ishr, 1) := by decide +kernel
theorem dX9_loudestGrid_37 : decode cX9_loudestGrid 37 = .ok (.istore 6, 2) := by decide +kernel
theorem dX9_loudestGrid_39 : decode cX9_loudestGrid 39 = .ok (.iload 4, 2) := by decide +kernel
theorem dX9_loudestGrid_41 : decode cX9_loudestGrid 41 = .ok (.iload 6, 2) := by decide +kernel
theorem dX9_loudestGrid_43 : decode cX9_loudestGrid 43 = .ok (.iload 6, 2) := by decide +kernel
theorem dX9_loudestGrid_45 : decode cX9_loudestGrid 45 = .ok (.imul, 1) := by decide +kernel
theorem dX9_loudestGrid_46 : decode cX9_loudestGrid 46 = .ok (.iadd, 1) := by decide +kernel
theorem dX9_loudestGrid_47 : decode cX9_loudestGrid 47 = .ok (.istore 4, 2) := by decide +kernel
theorem dX9_loudestGrid_49 : decode cX9_loudestGrid 49 = .ok (.iinc 5 1, 3) := by decide +kernel
theorem dX9_loudestGrid_52 : decode cX9_loudestGrid 52 = .ok (.goto (-35), 3) := by decide +kernel
theorem dX9_loudestGrid_55 : decode cX9_loudestGrid 55 = .ok (.iload 4, 2) := by decide +kernel
theorem dX9_loudestGrid_57 : decode cX9_loudestGrid 57 = .ok (.iload_n 2, 1) := by decide +kernel
theorem dX9_loudestGrid_58 : decode cX9_loudestGrid 58 = .ok (.if_icmp .le 8, 3) := by decide +kernel
theorem dX9_loudestGrid_61 : decode cX9_loudestGrid 61 = .ok (.iload 4, 2) := by decide +kernel
theorem dX9_loudestGrid_63 : decode cX9_loudestGrid 63 = .ok (.istore_n 2, 1) := by decide +kernel
theorem dX9_loudestGrid_64 : decode cX9_loudestGrid 64 = .ok (.iload_n 3, 1) := by decide +kernel
theorem dX9_loudestGrid_65 : decode cX9_loudestGrid 65 = .ok (.istore_n 1, 1) := by decide +kernel
theorem dX9_loudestGrid_66 : decode cX9_loudestGrid 66 = .ok (.iinc 3 1, 3) := by decide +kernel
theorem dX9_loudestGrid_69 : decode cX9_loudestGrid 69 = .ok (.goto (-63), 3) := by decide +kernel
theorem dX9_loudestGrid_72 : decode cX9_loudestGrid 72 = .ok (.iload_n 1, 1) := by decide +kernel
theorem dX9_loudestGrid_73 : decode cX9_loudestGrid 73 = .ok (.ireturn, 1) := by decide +kernel
theorem dX9_heightOf_0 : decode cX9_heightOf 0 = .ok (.iconst 0, 1) := by decide +kernel
theorem dX9_heightOf_1 : decode cX9_heightOf 1 = .ok (.istore_n 1, 1) := by decide +kernel
theorem dX9_heightOf_2 : decode cX9_heightOf 2 = .ok (.iconst 0, 1) := by decide +kernel
theorem dX9_heightOf_3 : decode cX9_heightOf 3 = .ok (.istore_n 2, 1) := by decide +kernel
theorem dX9_heightOf_4 : decode cX9_heightOf 4 = .ok (.iload_n 2, 1) := by decide +kernel
theorem dX9_heightOf_5 : decode cX9_heightOf 5 = .ok (.iconst 5, 1) := by decide +kernel
theorem dX9_heightOf_6 : decode cX9_heightOf 6 = .ok (.if_icmp .gt 26, 3) := by decide +kernel
theorem dX9_heightOf_9 : decode cX9_heightOf 9 = .ok (.iload_n 1, 1) := by decide +kernel
theorem dX9_heightOf_10 : decode cX9_heightOf 10 = .ok (.iload_n 0, 1) := by decide +kernel
theorem dX9_heightOf_11 : decode cX9_heightOf 11 = .ok (.bipush 9, 2) := by decide +kernel
theorem dX9_heightOf_13 : decode cX9_heightOf 13 = .ok (.iload_n 2, 1) := by decide +kernel
theorem dX9_heightOf_14 : decode cX9_heightOf 14 = .ok (.iadd, 1) := by decide +kernel
theorem dX9_heightOf_15 : decode cX9_heightOf 15 = .ok (.ishr, 1) := by decide +kernel
theorem dX9_heightOf_16 : decode cX9_heightOf 16 = .ok (.ifCond .le 7, 3) := by decide +kernel
theorem dX9_heightOf_19 : decode cX9_heightOf 19 = .ok (.iconst 1, 1) := by decide +kernel
theorem dX9_heightOf_20 : decode cX9_heightOf 20 = .ok (.goto 4, 3) := by decide +kernel
theorem dX9_heightOf_23 : decode cX9_heightOf 23 = .ok (.iconst 0, 1) := by decide +kernel
theorem dX9_heightOf_24 : decode cX9_heightOf 24 = .ok (.iadd, 1) := by decide +kernel
theorem dX9_heightOf_25 : decode cX9_heightOf 25 = .ok (.istore_n 1, 1) := by decide +kernel
theorem dX9_heightOf_26 : decode cX9_heightOf 26 = .ok (.iinc 2 1, 3) := by decide +kernel
theorem dX9_heightOf_29 : decode cX9_heightOf 29 = .ok (.goto (-25), 3) := by decide +kernel
theorem dX9_heightOf_32 : decode cX9_heightOf 32 = .ok (.iload_n 0, 1) := by decide +kernel
theorem dX9_heightOf_33 : decode cX9_heightOf 33 = .ok (.iload_n 1, 1) := by decide +kernel
theorem dX9_heightOf_34 : decode cX9_heightOf 34 = .ok (.iconst 5, 1) := by decide +kernel
theorem dX9_heightOf_35 : decode cX9_heightOf 35 = .ok (.iadd, 1) := by decide +kernel
theorem dX9_heightOf_36 : decode cX9_heightOf 36 = .ok (.ishr, 1) := by decide +kernel
theorem dX9_heightOf_37 : decode cX9_heightOf 37 = .ok (.bipush 8, 2) := by decide +kernel
theorem dX9_heightOf_39 : decode cX9_heightOf 39 = .ok (.iload_n 1, 1) := by decide +kernel
theorem dX9_heightOf_40 : decode cX9_heightOf 40 = .ok (.imul, 1) := by decide +kernel
theorem dX9_heightOf_41 : decode cX9_heightOf 41 = .ok (.iadd, 1) := by decide +kernel
theorem dX9_heightOf_42 : decode cX9_heightOf 42 = .ok (.ireturn, 1) := by decide +kernel
theorem dX10_init_0 : decode cX10_init 0 = .ok (.aload_n 0, 1) := by decide +kernel
theorem dX10_init_1 : decode cX10_init 1 = .ok (.invokespecial 1, 3) := by decide +kernel
theorem dX10_init_4 : decode cX10_init 4 = .ok (.aload_n 0, 1) := by decide +kernel
theorem dX10_init_5 : decode cX10_init 5 = .ok (.sipush 160, 3) := by decide +kernel
theorem dX10_init_8 : decode cX10_init 8 = .ok (.newarray .int, 2) := by decide +kernel
theorem dX10_init_10 : decode cX10_init 10 = .ok (.putfield 9, 3) := by decide +kernel
theorem dX10_init_13 : decode cX10_init 13 = .ok (.aload_n 0, 1) := by decide +kernel
theorem dX10_init_14 : decode cX10_init 14 = .ok (.bipush 33, 2) := by decide +kernel
theorem dX10_init_16 : decode cX10_init 16 = .ok (.newarray .int, 2) := by decide +kernel
theorem dX10_init_18 : decode cX10_init 18 = .ok (.putfield 13, 3) := by decide +kernel
theorem dX10_init_21 : decode cX10_init 21 = .ok (.aload_n 0, 1) := by decide +kernel
theorem dX10_init_22 : decode cX10_init 22 = .ok (.bipush 76, 2) := by decide +kernel
theorem dX10_init_24 : decode cX10_init 24 = .ok (.newarray .int, 2) := by decide +kernel
theorem dX10_init_26 : decode cX10_init 26 = .ok (.putfield 16, 3) := by decide +kernel
theorem dX10_init_29 : decode cX10_init 29 = .ok (.aload_n 0, 1) := by decide +kernel
theorem dX10_init_30 : decode cX10_init 30 = .ok (.sipush 160, 3) := by decide +kernel
theorem dX10_init_33 : decode cX10_init 33 = .ok (.newarray .int, 2) := by decide +kernel
theorem dX10_init_35 : decode cX10_init 35 = .ok (.putfield 19, 3) := by decide +kernel
theorem dX10_init_38 : decode cX10_init 38 = .ok (.aload_n 0, 1) := by decide +kernel
theorem dX10_init_39 : decode cX10_init 39 = .ok (.new 22, 3) := by decide +kernel
theorem dX10_init_42 : decode cX10_init 42 = .ok (.dup, 1) := by decide +kernel
theorem dX10_init_43 : decode cX10_init 43 = .ok (.invokespecial 24, 3) := by decide +kernel
theorem dX10_init_46 : decode cX10_init 46 = .ok (.putfield 25, 3) := by decide +kernel
theorem dX10_init_49 : decode cX10_init 49 = .ok (.aload_n 0, 1) := by decide +kernel
theorem dX10_init_50 : decode cX10_init 50 = .ok (.new 29, 3) := by decide +kernel
theorem dX10_init_53 : decode cX10_init 53 = .ok (.dup, 1) := by decide +kernel
theorem dX10_init_54 : decode cX10_init 54 = .ok (.invokespecial 31, 3) := by decide +kernel
theorem dX10_init_57 : decode cX10_init 57 = .ok (.putfield 32, 3) := by decide +kernel
theorem dX10_init_60 : decode cX10_init 60 = .ok (.aload_n 0, 1) := by decide +kernel
theorem dX10_init_61 : decode cX10_init 61 = .ok (.iconst 0, 1) := by decide +kernel
theorem dX10_init_62 : decode cX10_init 62 = .ok (.putfield 36, 3) := by decide +kernel
theorem dX10_init_65 : decode cX10_init 65 = .ok (.aload_n 0, 1) := by decide +kernel
theorem dX10_init_66 : decode cX10_init 66 = .ok (.iconst 0, 1) := by decide +kernel
theorem dX10_init_67 : decode cX10_init 67 = .ok (.putfield 40, 3) := by decide +kernel
theorem dX10_init_70 : decode cX10_init 70 = .ok (.return_, 1) := by decide +kernel
theorem dX10_put_0 : decode cX10_put 0 = .ok (.iload_n 1, 1) := by decide +kernel
theorem dX10_put_1 : decode cX10_put 1 = .ok (.sipush (-32768), 3) := by decide +kernel
theorem dX10_put_4 : decode cX10_put 4 = .ok (.if_icmp .lt 10, 3) := by decide +kernel
theorem dX10_put_7 : decode cX10_put 7 = .ok (.iload_n 1, 1) := by decide +kernel
theorem dX10_put_8 : decode cX10_put 8 = .ok (.sipush 32767, 3) := by decide +kernel
theorem dX10_put_11 : decode cX10_put 11 = .ok (.if_icmp .le 13, 3) := by decide +kernel
theorem dX10_put_14 : decode cX10_put 14 = .ok (.new 43, 3) := by decide +kernel
theorem dX10_put_17 : decode cX10_put 17 = .ok (.dup, 1) := by decide +kernel
theorem dX10_put_18 : decode cX10_put 18 = .ok (.ldc 45, 2) := by decide +kernel
theorem dX10_put_20 : decode cX10_put 20 = .ok (.invokespecial 47, 3) := by decide +kernel
theorem dX10_put_23 : decode cX10_put 23 = .ok (.athrow, 1) := by decide +kernel
theorem dX10_put_24 : decode cX10_put 24 = .ok (.aload_n 0, 1) := by decide +kernel
theorem dX10_put_25 : decode cX10_put 25 = .ok (.getfield 36, 3) := by decide +kernel
theorem dX10_put_28 : decode cX10_put 28 = .ok (.sipush 160, 3) := by decide +kernel
theorem dX10_put_31 : decode cX10_put 31 = .ok (.if_icmp .lt 13, 3) := by decide +kernel
theorem dX10_put_34 : decode cX10_put 34 = .ok (.new 50, 3) := by decide +kernel
theorem dX10_put_37 : decode cX10_put 37 = .ok (.dup, 1) := by decide +kernel
theorem dX10_put_38 : decode cX10_put 38 = .ok (.ldc 52, 2) := by decide +kernel
theorem dX10_put_40 : decode cX10_put 40 = .ok (.invokespecial 54, 3) := by decide +kernel
theorem dX10_put_43 : decode cX10_put 43 = .ok (.athrow, 1) := by decide +kernel
theorem dX10_put_44 : decode cX10_put 44 = .ok (.aload_n 0, 1) := by decide +kernel
theorem dX10_put_45 : decode cX10_put 45 = .ok (.getfield 9, 3) := by decide +kernel
theorem dX10_put_48 : decode cX10_put 48 = .ok (.aload_n 0, 1) := by decide +kernel
theorem dX10_put_49 : decode cX10_put 49 = .ok (.getfield 36, 3) := by decide +kernel
theorem dX10_put_52 : decode cX10_put 52 = .ok (.iload_n 1, 1) := by decide +kernel
theorem dX10_put_53 : decode cX10_put 53 = .ok (.iastore, 1) := by decide +kernel
theorem dX10_put_54 : decode cX10_put 54 = .ok (.aload_n 0, 1) := by decide +kernel
theorem dX10_put_55 : decode cX10_put 55 = .ok (.dup, 1) := by decide +kernel
theorem dX10_put_56 : decode cX10_put 56 = .ok (.getfield 36, 3) := by decide +kernel
theorem dX10_put_59 : decode cX10_put 59 = .ok (.iconst 1, 1) := by decide +kernel
theorem dX10_put_60 : decode cX10_put 60 = .ok (.iadd, 1) := by decide +kernel
theorem dX10_put_61 : decode cX10_put 61 = .ok (.putfield 36, 3) := by decide +kernel
theorem dX10_put_64 : decode cX10_put 64 = .ok (.aload_n 0, 1) := by decide +kernel
theorem dX10_put_65 : decode cX10_put 65 = .ok (.getfield 36, 3) := by decide +kernel
theorem dX10_put_68 : decode cX10_put 68 = .ok (.ireturn, 1) := by decide +kernel
theorem dX10_fill_0 : decode cX10_fill 0 = .ok (.iload_n 3, 1) := by decide +kernel
theorem dX10_fill_1 : decode cX10_fill 1 = .ok (.ifCond .lt 10, 3) := by decide +kernel
theorem dX10_fill_4 : decode cX10_fill 4 = .ok (.iload_n 3, 1) := by decide +kernel
theorem dX10_fill_5 : decode cX10_fill 5 = .ok (.sipush 160, 3) := by decide +kernel
theorem dX10_fill_8 : decode cX10_fill 8 = .ok (.if_icmp .le 13, 3) := by decide +kernel
theorem dX10_fill_11 : decode cX10_fill 11 = .ok (.new 43, 3) := by decide +kernel
theorem dX10_fill_14 : decode cX10_fill 14 = .ok (.dup, 1) := by decide +kernel
theorem dX10_fill_15 : decode cX10_fill 15 = .ok (.ldc 55, 2) := by decide +kernel
theorem dX10_fill_17 : decode cX10_fill 17 = .ok (.invokespecial 47, 3) := by decide +kernel
theorem dX10_fill_20 : decode cX10_fill 20 = .ok (.athrow, 1) := by decide +kernel
theorem dX10_fill_21 : decode cX10_fill 21 = .ok (.aload_n 0, 1) := by decide +kernel
theorem dX10_fill_22 : decode cX10_fill 22 = .ok (.getfield 36, 3) := by decide +kernel
theorem dX10_fill_25 : decode cX10_fill 25 = .ok (.iload_n 3, 1) := by decide +kernel
theorem dX10_fill_26 : decode cX10_fill 26 = .ok (.iadd, 1) := by decide +kernel
theorem dX10_fill_27 : decode cX10_fill 27 = .ok (.sipush 160, 3) := by decide +kernel
theorem dX10_fill_30 : decode cX10_fill 30 = .ok (.if_icmp .le 13, 3) := by decide +kernel
theorem dX10_fill_33 : decode cX10_fill 33 = .ok (.new 50, 3) := by decide +kernel
theorem dX10_fill_36 : decode cX10_fill 36 = .ok (.dup, 1) := by decide +kernel
theorem dX10_fill_37 : decode cX10_fill 37 = .ok (.ldc 57, 2) := by decide +kernel
theorem dX10_fill_39 : decode cX10_fill 39 = .ok (.invokespecial 54, 3) := by decide +kernel
theorem dX10_fill_42 : decode cX10_fill 42 = .ok (.athrow, 1) := by decide +kernel
theorem dX10_fill_43 : decode cX10_fill 43 = .ok (.iconst 0, 1) := by decide +kernel
theorem dX10_fill_44 : decode cX10_fill 44 = .ok (.istore 4, 2) := by decide +kernel
theorem dX10_fill_46 : decode cX10_fill 46 = .ok (.iload 4, 2) := by decide +kernel
theorem dX10_fill_48 : decode cX10_fill 48 = .ok (.iload_n 3, 1) := by decide +kernel
theorem dX10_fill_49 : decode cX10_fill 49 = .ok (.if_icmp .ge 28, 3) := by decide +kernel
theorem dX10_fill_52 : decode cX10_fill 52 = .ok (.aload_n 0, 1) := by decide +kernel
theorem dX10_fill_53 : decode cX10_fill 53 = .ok (.getfield 9, 3) := by decide +kernel
theorem dX10_fill_56 : decode cX10_fill 56 = .ok (.aload_n 0, 1) := by decide +kernel
theorem dX10_fill_57 : decode cX10_fill 57 = .ok (.getfield 36, 3) := by decide +kernel
theorem dX10_fill_60 : decode cX10_fill 60 = .ok (.iload 4, 2) := by decide +kernel
theorem dX10_fill_62 : decode cX10_fill 62 = .ok (.iadd, 1) := by decide +kernel
theorem dX10_fill_63 : decode cX10_fill 63 = .ok (.iload_n 1, 1) := by decide +kernel
theorem dX10_fill_64 : decode cX10_fill 64 = .ok (.iload 4, 2) := by decide +kernel
theorem dX10_fill_66 : decode cX10_fill 66 = .ok (.iload_n 2, 1) := by decide +kernel
theorem dX10_fill_67 : decode cX10_fill 67 = .ok (.imul, 1) := by decide +kernel
theorem dX10_fill_68 : decode cX10_fill 68 = .ok (.iadd, 1) := by decide +kernel
theorem dX10_fill_69 : decode cX10_fill 69 = .ok (.i2s, 1) := by decide +kernel
theorem dX10_fill_70 : decode cX10_fill 70 = .ok (.iastore, 1) := by decide +kernel
theorem dX10_fill_71 : decode cX10_fill 71 = .ok (.iinc 4 1, 3) := by decide +kernel
theorem dX10_fill_74 : decode cX10_fill 74 = .ok (.goto (-28), 3) := by decide +kernel
theorem dX10_fill_77 : decode cX10_fill 77 = .ok (.aload_n 0, 1) := by decide +kernel
theorem dX10_fill_78 : decode cX10_fill 78 = .ok (.dup, 1) := by decide +kernel
theorem dX10_fill_79 : decode cX10_fill 79 = .ok (.getfield 36, 3) := by decide +kernel
theorem dX10_fill_82 : decode cX10_fill 82 = .ok (.iload_n 3, 1) := by decide +kernel
theorem dX10_fill_83 : decode cX10_fill 83 = .ok (.iadd, 1) := by decide +kernel
theorem dX10_fill_84 : decode cX10_fill 84 = .ok (.putfield 36, 3) := by decide +kernel
theorem dX10_fill_87 : decode cX10_fill 87 = .ok (.aload_n 0, 1) := by decide +kernel
theorem dX10_fill_88 : decode cX10_fill 88 = .ok (.getfield 36, 3) := by decide +kernel
theorem dX10_fill_91 : decode cX10_fill 91 = .ok (.ireturn, 1) := by decide +kernel
theorem dX10_encode_0 : decode cX10_encode 0 = .ok (.aload_n 0, 1) := by decide +kernel
theorem dX10_encode_1 : decode cX10_encode 1 = .ok (.getfield 36, 3) := by decide +kernel
theorem dX10_encode_4 : decode cX10_encode 4 = .ok (.sipush 160, 3) := by decide +kernel
theorem dX10_encode_7 : decode cX10_encode 7 = .ok (.if_icmp .eq 13, 3) := by decide +kernel
theorem dX10_encode_10 : decode cX10_encode 10 = .ok (.new 50, 3) := by decide +kernel
theorem dX10_encode_13 : decode cX10_encode 13 = .ok (.dup, 1) := by decide +kernel
theorem dX10_encode_14 : decode cX10_encode 14 = .ok (.ldc 59, 2) := by decide +kernel
theorem dX10_encode_16 : decode cX10_encode 16 = .ok (.invokespecial 54, 3) := by decide +kernel
theorem dX10_encode_19 : decode cX10_encode 19 = .ok (.athrow, 1) := by decide +kernel
theorem dX10_encode_20 : decode cX10_encode 20 = .ok (.aload_n 0, 1) := by decide +kernel
theorem dX10_encode_21 : decode cX10_encode 21 = .ok (.getfield 25, 3) := by decide +kernel
theorem dX10_encode_24 : decode cX10_encode 24 = .ok (.aload_n 0, 1) := by decide +kernel
theorem dX10_encode_25 : decode cX10_encode 25 = .ok (.getfield 9, 3) := by decide +kernel
theorem dX10_encode_28 : decode cX10_encode 28 = .ok (.aload_n 0, 1) := by decide +kernel
theorem dX10_encode_29 : decode cX10_encode 29 = .ok (.getfield 16, 3) := by decide +kernel
theorem dX10_encode_32 : decode cX10_encode 32 = .ok (.invokevirtual 61, 3) := by decide +kernel
theorem dX10_encode_35 : decode cX10_encode 35 = .ok (.aload_n 0, 1) := by decide +kernel
theorem dX10_encode_36 : decode cX10_encode 36 = .ok (.iconst 0, 1) := by decide +kernel
theorem dX10_encode_37 : decode cX10_encode 37 = .ok (.putfield 36, 3) := by decide +kernel
theorem dX10_encode_40 : decode cX10_encode 40 = .ok (.aload_n 0, 1) := by decide +kernel
theorem dX10_encode_41 : decode cX10_encode 41 = .ok (.getfield 25, 3) := by decide +kernel
theorem dX10_encode_44 : decode cX10_encode 44 = .ok (.getfield 65, 3) := by decide +kernel
theorem dX10_encode_47 : decode cX10_encode 47 = .ok (.ireturn, 1) := by decide +kernel
theorem dX10_parameter_0 : decode cX10_parameter 0 = .ok (.iload_n 1, 1) := by decide +kernel
theorem dX10_parameter_1 : decode cX10_parameter 1 = .ok (.ifCond .lt 9, 3) := by decide +kernel
theorem dX10_parameter_4 : decode cX10_parameter 4 = .ok (.iload_n 1, 1) := by decide +kernel
theorem dX10_parameter_5 : decode cX10_parameter 5 = .ok (.bipush 76, 2) := by decide +kernel
theorem dX10_parameter_7 : decode cX10_parameter 7 = .ok (.if_icmp .lt 13, 3) := by decide +kernel
theorem dX10_parameter_10 : decode cX10_parameter 10 = .ok (.new 43, 3) := by decide +kernel
theorem dX10_parameter_13 : decode cX10_parameter 13 = .ok (.dup, 1) := by decide +kernel
theorem dX10_parameter_14 : decode cX10_parameter 14 = .ok (.ldc 68, 2) := by decide +kernel
theorem dX10_parameter_16 : decode cX10_parameter 16 = .ok (.invokespecial 47, 3) := by decide +kernel
theorem dX10_parameter_19 : decode cX10_parameter 19 = .ok (.athrow, 1) := by decide +kernel
theorem dX10_parameter_20 : decode cX10_parameter 20 = .ok (.aload_n 0, 1) := by decide +kernel
theorem dX10_parameter_21 : decode cX10_parameter 21 = .ok (.getfield 16, 3) := by decide +kernel
theorem dX10_parameter_24 : decode cX10_parameter 24 = .ok (.iload_n 1, 1) := by decide +kernel
theorem dX10_parameter_25 : decode cX10_parameter 25 = .ok (.iaload, 1) := by decide +kernel
theorem dX10_parameter_26 : decode cX10_parameter 26 = .ok (.ireturn, 1) := by decide +kernel
theorem dX10_feed_0 : decode cX10_feed 0 = .ok (.iload_n 3, 1) := by decide +kernel
theorem dX10_feed_1 : decode cX10_feed 1 = .ok (.ifCond .lt 9, 3) := by decide +kernel
theorem dX10_feed_4 : decode cX10_feed 4 = .ok (.iload_n 3, 1) := by decide +kernel
theorem dX10_feed_5 : decode cX10_feed 5 = .ok (.bipush 8, 2) := by decide +kernel
theorem dX10_feed_7 : decode cX10_feed 7 = .ok (.if_icmp .le 13, 3) := by decide +kernel
theorem dX10_feed_10 : decode cX10_feed 10 = .ok (.new 43, 3) := by decide +kernel
theorem dX10_feed_13 : decode cX10_feed 13 = .ok (.dup, 1) := by decide +kernel
theorem dX10_feed_14 : decode cX10_feed 14 = .ok (.ldc 70, 2) := by decide +kernel
theorem dX10_feed_16 : decode cX10_feed 16 = .ok (.invokespecial 47, 3) := by decide +kernel
theorem dX10_feed_19 : decode cX10_feed 19 = .ok (.athrow, 1) := by decide +kernel
theorem dX10_feed_20 : decode cX10_feed 20 = .ok (.aload_n 0, 1) := by decide +kernel
theorem dX10_feed_21 : decode cX10_feed 21 = .ok (.getfield 40, 3) := by decide +kernel
theorem dX10_feed_24 : decode cX10_feed 24 = .ok (.iload_n 3, 1) := by decide +kernel
theorem dX10_feed_25 : decode cX10_feed 25 = .ok (.iadd, 1) := by decide +kernel
theorem dX10_feed_26 : decode cX10_feed 26 = .ok (.bipush 33, 2) := by decide +kernel
theorem dX10_feed_28 : decode cX10_feed 28 = .ok (.if_icmp .le 13, 3) := by decide +kernel
theorem dX10_feed_31 : decode cX10_feed 31 = .ok (.new 50, 3) := by decide +kernel
theorem dX10_feed_34 : decode cX10_feed 34 = .ok (.dup, 1) := by decide +kernel
theorem dX10_feed_35 : decode cX10_feed 35 = .ok (.ldc 72, 2) := by decide +kernel
theorem dX10_feed_37 : decode cX10_feed 37 = .ok (.invokespecial 54, 3) := by decide +kernel
theorem dX10_feed_40 : decode cX10_feed 40 = .ok (.athrow, 1) := by decide +kernel
theorem dX10_feed_41 : decode cX10_feed 41 = .ok (.iconst 0, 1) := by decide +kernel
theorem dX10_feed_42 : decode cX10_feed 42 = .ok (.istore 4, 2) := by decide +kernel
theorem dX10_feed_44 : decode cX10_feed 44 = .ok (.iload 4, 2) := by decide +kernel
theorem dX10_feed_46 : decode cX10_feed 46 = .ok (.iload_n 3, 1) := by decide +kernel
theorem dX10_feed_47 : decode cX10_feed 47 = .ok (.if_icmp .ge 33, 3) := by decide +kernel
theorem dX10_feed_50 : decode cX10_feed 50 = .ok (.aload_n 0, 1) := by decide +kernel
theorem dX10_feed_51 : decode cX10_feed 51 = .ok (.getfield 13, 3) := by decide +kernel
theorem dX10_feed_54 : decode cX10_feed 54 = .ok (.aload_n 0, 1) := by decide +kernel
theorem dX10_feed_55 : decode cX10_feed 55 = .ok (.getfield 40, 3) := by decide +kernel
theorem dX10_feed_58 : decode cX10_feed 58 = .ok (.iload 4, 2) := by decide +kernel
theorem dX10_feed_60 : decode cX10_feed 60 = .ok (.iadd, 1) := by decide +kernel
theorem dX10_feed_61 : decode cX10_feed 61 = .ok (.lload_n 1, 1) := by decide +kernel
theorem dX10_feed_62 : decode cX10_feed 62 = .ok (.bipush 8, 2) := by decide +kernel
theorem dX10_feed_64 : decode cX10_feed 64 = .ok (.iload 4, 2) := by decide +kernel
theorem dX10_feed_66 : decode cX10_feed 66 = .ok (.imul, 1) := by decide +kernel
theorem dX10_feed_67 : decode cX10_feed 67 = .ok (.lshr, 1) := by decide +kernel
theorem dX10_feed_68 : decode cX10_feed 68 = .ok (.l2i, 1) := by decide +kernel
theorem dX10_feed_69 : decode cX10_feed 69 = .ok (.sipush 255, 3) := by decide +kernel
theorem dX10_feed_72 : decode cX10_feed 72 = .ok (.iand, 1) := by decide +kernel
theorem dX10_feed_73 : decode cX10_feed 73 = .ok (.iastore, 1) := by decide +kernel
theorem dX10_feed_74 : decode cX10_feed 74 = .ok (.iinc 4 1, 3) := by decide +kernel
theorem dX10_feed_77 : decode cX10_feed 77 = .ok (.goto (-33), 3) := by decide +kernel
theorem dX10_feed_80 : decode cX10_feed 80 = .ok (.aload_n 0, 1) := by decide +kernel
theorem dX10_feed_81 : decode cX10_feed 81 = .ok (.dup, 1) := by decide +kernel
theorem dX10_feed_82 : decode cX10_feed 82 = .ok (.getfield 40, 3) := by decide +kernel
theorem dX10_feed_85 : decode cX10_feed 85 = .ok (.iload_n 3, 1) := by decide +kernel
theorem dX10_feed_86 : decode cX10_feed 86 = .ok (.iadd, 1) := by decide +kernel
theorem dX10_feed_87 : decode cX10_feed 87 = .ok (.putfield 40, 3) := by decide +kernel
theorem dX10_feed_90 : decode cX10_feed 90 = .ok (.aload_n 0, 1) := by decide +kernel
theorem dX10_feed_91 : decode cX10_feed 91 = .ok (.getfield 40, 3) := by decide +kernel
theorem dX10_feed_94 : decode cX10_feed 94 = .ok (.ireturn, 1) := by decide +kernel
theorem dX10_take_0 : decode cX10_take 0 = .ok (.aload_n 0, 1) := by decide +kernel
theorem dX10_take_1 : decode cX10_take 1 = .ok (.invokevirtual 74, 3) := by decide +kernel
theorem dX10_take_4 : decode cX10_take 4 = .ok (.aload_n 0, 1) := by decide +kernel
theorem dX10_take_5 : decode cX10_take 5 = .ok (.bipush 33, 2) := by decide +kernel
theorem dX10_take_7 : decode cX10_take 7 = .ok (.putfield 40, 3) := by decide +kernel
theorem dX10_take_10 : decode cX10_take 10 = .ok (.aload_n 0, 1) := by decide +kernel
theorem dX10_take_11 : decode cX10_take 11 = .ok (.getfield 40, 3) := by decide +kernel
theorem dX10_take_14 : decode cX10_take 14 = .ok (.ireturn, 1) := by decide +kernel
theorem dX10_decode_0 : decode cX10_decode 0 = .ok (.aload_n 0, 1) := by decide +kernel
theorem dX10_decode_1 : decode cX10_decode 1 = .ok (.getfield 40, 3) := by decide +kernel
theorem dX10_decode_4 : decode cX10_decode 4 = .ok (.bipush 33, 2) := by decide +kernel
theorem dX10_decode_6 : decode cX10_decode 6 = .ok (.if_icmp .ne 20, 3) := by decide +kernel
theorem dX10_decode_9 : decode cX10_decode 9 = .ok (.aload_n 0, 1) := by decide +kernel
theorem dX10_decode_10 : decode cX10_decode 10 = .ok (.getfield 13, 3) := by decide +kernel
theorem dX10_decode_13 : decode cX10_decode 13 = .ok (.iconst 0, 1) := by decide +kernel
theorem dX10_decode_14 : decode cX10_decode 14 = .ok (.iaload, 1) := by decide +kernel
theorem dX10_decode_15 : decode cX10_decode 15 = .ok (.iconst 4, 1) := by decide +kernel
theorem dX10_decode_16 : decode cX10_decode 16 = .ok (.ishr, 1) := by decide +kernel
theorem dX10_decode_17 : decode cX10_decode 17 = .ok (.bipush 13, 2) := by decide +kernel
theorem dX10_decode_19 : decode cX10_decode 19 = .ok (.if_icmp .ne 7, 3) := by decide +kernel
theorem dX10_decode_22 : decode cX10_decode 22 = .ok (.iconst 1, 1) := by decide +kernel
theorem dX10_decode_23 : decode cX10_decode 23 = .ok (.goto 4, 3) := by decide +kernel
theorem dX10_decode_26 : decode cX10_decode 26 = .ok (.iconst 0, 1) := by decide +kernel
theorem dX10_decode_27 : decode cX10_decode 27 = .ok (.istore_n 1, 1) := by decide +kernel
theorem dX10_decode_28 : decode cX10_decode 28 = .ok (.aload_n 0, 1) := by decide +kernel
theorem dX10_decode_29 : decode cX10_decode 29 = .ok (.iconst 0, 1) := by decide +kernel
theorem dX10_decode_30 : decode cX10_decode 30 = .ok (.putfield 40, 3) := by decide +kernel
theorem dX10_decode_33 : decode cX10_decode 33 = .ok (.iload_n 1, 1) := by decide +kernel
theorem dX10_decode_34 : decode cX10_decode 34 = .ok (.ifCond .ne 5, 3) := by decide +kernel
theorem dX10_decode_37 : decode cX10_decode 37 = .ok (.iconst (-1), 1) := by decide +kernel
theorem dX10_decode_38 : decode cX10_decode 38 = .ok (.ireturn, 1) := by decide +kernel
theorem dX10_decode_39 : decode cX10_decode 39 = .ok (.aload_n 0, 1) := by decide +kernel
theorem dX10_decode_40 : decode cX10_decode 40 = .ok (.invokevirtual 77, 3) := by decide +kernel
theorem dX10_decode_43 : decode cX10_decode 43 = .ok (.aload_n 0, 1) := by decide +kernel
theorem dX10_decode_44 : decode cX10_decode 44 = .ok (.getfield 32, 3) := by decide +kernel
theorem dX10_decode_47 : decode cX10_decode 47 = .ok (.aload_n 0, 1) := by decide +kernel
theorem dX10_decode_48 : decode cX10_decode 48 = .ok (.getfield 16, 3) := by decide +kernel
theorem dX10_decode_51 : decode cX10_decode 51 = .ok (.aload_n 0, 1) := by decide +kernel
theorem dX10_decode_52 : decode cX10_decode 52 = .ok (.getfield 19, 3) := by decide +kernel
theorem dX10_decode_55 : decode cX10_decode 55 = .ok (.invokevirtual 80, 3) := by decide +kernel
theorem dX10_decode_58 : decode cX10_decode 58 = .ok (.aload_n 0, 1) := by decide +kernel
theorem dX10_decode_59 : decode cX10_decode 59 = .ok (.getfield 32, 3) := by decide +kernel
theorem dX10_decode_62 : decode cX10_decode 62 = .ok (.getfield 83, 3) := by decide +kernel
theorem dX10_decode_65 : decode cX10_decode 65 = .ok (.ireturn, 1) := by decide +kernel
theorem dX10_hand_0 : decode cX10_hand 0 = .ok (.iload_n 1, 1) := by decide +kernel
theorem dX10_hand_1 : decode cX10_hand 1 = .ok (.ifCond .lt 20, 3) := by decide +kernel
theorem dX10_hand_4 : decode cX10_hand 4 = .ok (.iload_n 1, 1) := by decide +kernel
theorem dX10_hand_5 : decode cX10_hand 5 = .ok (.aload_n 0, 1) := by decide +kernel
theorem dX10_hand_6 : decode cX10_hand 6 = .ok (.getfield 40, 3) := by decide +kernel
theorem dX10_hand_9 : decode cX10_hand 9 = .ok (.if_icmp .ge 12, 3) := by decide +kernel
theorem dX10_hand_12 : decode cX10_hand 12 = .ok (.aload_n 0, 1) := by decide +kernel
theorem dX10_hand_13 : decode cX10_hand 13 = .ok (.getfield 13, 3) := by decide +kernel
theorem dX10_hand_16 : decode cX10_hand 16 = .ok (.iload_n 1, 1) := by decide +kernel
theorem dX10_hand_17 : decode cX10_hand 17 = .ok (.iaload, 1) := by decide +kernel
theorem dX10_hand_18 : decode cX10_hand 18 = .ok (.goto 4, 3) := by decide +kernel
theorem dX10_hand_21 : decode cX10_hand 21 = .ok (.iconst (-1), 1) := by decide +kernel
theorem dX10_hand_22 : decode cX10_hand 22 = .ok (.ireturn, 1) := by decide +kernel
theorem dX10_sample_0 : decode cX10_sample 0 = .ok (.iload_n 1, 1) := by decide +kernel
theorem dX10_sample_1 : decode cX10_sample 1 = .ok (.ifCond .lt 10, 3) := by decide +kernel
theorem dX10_sample_4 : decode cX10_sample 4 = .ok (.iload_n 1, 1) := by decide +kernel
theorem dX10_sample_5 : decode cX10_sample 5 = .ok (.sipush 160, 3) := by decide +kernel
theorem dX10_sample_8 : decode cX10_sample 8 = .ok (.if_icmp .lt 13, 3) := by decide +kernel
theorem dX10_sample_11 : decode cX10_sample 11 = .ok (.new 43, 3) := by decide +kernel
theorem dX10_sample_14 : decode cX10_sample 14 = .ok (.dup, 1) := by decide +kernel
theorem dX10_sample_15 : decode cX10_sample 15 = .ok (.ldc 84, 2) := by decide +kernel
theorem dX10_sample_17 : decode cX10_sample 17 = .ok (.invokespecial 47, 3) := by decide +kernel
theorem dX10_sample_20 : decode cX10_sample 20 = .ok (.athrow, 1) := by decide +kernel
theorem dX10_sample_21 : decode cX10_sample 21 = .ok (.aload_n 0, 1) := by decide +kernel
theorem dX10_sample_22 : decode cX10_sample 22 = .ok (.getfield 19, 3) := by decide +kernel
theorem dX10_sample_25 : decode cX10_sample 25 = .ok (.iload_n 1, 1) := by decide +kernel
theorem dX10_sample_26 : decode cX10_sample 26 = .ok (.iaload, 1) := by decide +kernel
theorem dX10_sample_27 : decode cX10_sample 27 = .ok (.ireturn, 1) := by decide +kernel
theorem dX10_reset_0 : decode cX10_reset 0 = .ok (.iload_n 1, 1) := by decide +kernel
theorem dX10_reset_1 : decode cX10_reset 1 = .ok (.ifCond .lt 8, 3) := by decide +kernel
theorem dX10_reset_4 : decode cX10_reset 4 = .ok (.iload_n 1, 1) := by decide +kernel
theorem dX10_reset_5 : decode cX10_reset 5 = .ok (.iconst 2, 1) := by decide +kernel
theorem dX10_reset_6 : decode cX10_reset 6 = .ok (.if_icmp .le 13, 3) := by decide +kernel
theorem dX10_reset_9 : decode cX10_reset 9 = .ok (.new 43, 3) := by decide +kernel
theorem dX10_reset_12 : decode cX10_reset 12 = .ok (.dup, 1) := by decide +kernel
theorem dX10_reset_13 : decode cX10_reset 13 = .ok (.ldc 86, 2) := by decide +kernel
theorem dX10_reset_15 : decode cX10_reset 15 = .ok (.invokespecial 47, 3) := by decide +kernel
theorem dX10_reset_18 : decode cX10_reset 18 = .ok (.athrow, 1) := by decide +kernel
theorem dX10_reset_19 : decode cX10_reset 19 = .ok (.iload_n 1, 1) := by decide +kernel
theorem dX10_reset_20 : decode cX10_reset 20 = .ok (.iconst 1, 1) := by decide +kernel
theorem dX10_reset_21 : decode cX10_reset 21 = .ok (.if_icmp .eq 10, 3) := by decide +kernel
theorem dX10_reset_24 : decode cX10_reset 24 = .ok (.aload_n 0, 1) := by decide +kernel
theorem dX10_reset_25 : decode cX10_reset 25 = .ok (.getfield 25, 3) := by decide +kernel
theorem dX10_reset_28 : decode cX10_reset 28 = .ok (.invokevirtual 88, 3) := by decide +kernel
theorem dX10_reset_31 : decode cX10_reset 31 = .ok (.iload_n 1, 1) := by decide +kernel
theorem dX10_reset_32 : decode cX10_reset 32 = .ok (.ifCond .eq 10, 3) := by decide +kernel
theorem dX10_reset_35 : decode cX10_reset 35 = .ok (.aload_n 0, 1) := by decide +kernel
theorem dX10_reset_36 : decode cX10_reset 36 = .ok (.getfield 32, 3) := by decide +kernel
theorem dX10_reset_39 : decode cX10_reset 39 = .ok (.invokevirtual 91, 3) := by decide +kernel
theorem dX10_reset_42 : decode cX10_reset 42 = .ok (.iload_n 1, 1) := by decide +kernel
theorem dX10_reset_43 : decode cX10_reset 43 = .ok (.iconst 2, 1) := by decide +kernel
theorem dX10_reset_44 : decode cX10_reset 44 = .ok (.if_icmp .ne 29, 3) := by decide +kernel
theorem dX10_reset_47 : decode cX10_reset 47 = .ok (.aload_n 0, 1) := by decide +kernel
theorem dX10_reset_48 : decode cX10_reset 48 = .ok (.iconst 0, 1) := by decide +kernel
theorem dX10_reset_49 : decode cX10_reset 49 = .ok (.putfield 36, 3) := by decide +kernel
theorem dX10_reset_52 : decode cX10_reset 52 = .ok (.aload_n 0, 1) := by decide +kernel
theorem dX10_reset_53 : decode cX10_reset 53 = .ok (.iconst 0, 1) := by decide +kernel
theorem dX10_reset_54 : decode cX10_reset 54 = .ok (.putfield 40, 3) := by decide +kernel
theorem dX10_reset_57 : decode cX10_reset 57 = .ok (.aload_n 0, 1) := by decide +kernel
theorem dX10_reset_58 : decode cX10_reset 58 = .ok (.getfield 16, 3) := by decide +kernel
theorem dX10_reset_61 : decode cX10_reset 61 = .ok (.iconst 0, 1) := by decide +kernel
theorem dX10_reset_62 : decode cX10_reset 62 = .ok (.invokestatic 92, 3) := by decide +kernel
theorem dX10_reset_65 : decode cX10_reset 65 = .ok (.aload_n 0, 1) := by decide +kernel
theorem dX10_reset_66 : decode cX10_reset 66 = .ok (.getfield 19, 3) := by decide +kernel
theorem dX10_reset_69 : decode cX10_reset 69 = .ok (.iconst 0, 1) := by decide +kernel
theorem dX10_reset_70 : decode cX10_reset 70 = .ok (.invokestatic 92, 3) := by decide +kernel
theorem dX10_reset_73 : decode cX10_reset 73 = .ok (.return_, 1) := by decide +kernel
theorem dX10_state_0 : decode cX10_state 0 = .ok (.iload_n 2, 1) := by decide +kernel
theorem dX10_state_1 : decode cX10_state 1 = .ok (.ifCond .lt 11, 3) := by decide +kernel
theorem dX10_state_4 : decode cX10_state 4 = .ok (.iload_n 2, 1) := by decide +kernel
theorem dX10_state_5 : decode cX10_state 5 = .ok (.iload_n 1, 1) := by decide +kernel
theorem dX10_state_6 : decode cX10_state 6 = .ok (.invokestatic 98, 3) := by decide +kernel
theorem dX10_state_9 : decode cX10_state 9 = .ok (.if_icmp .lt 13, 3) := by decide +kernel
theorem dX10_state_12 : decode cX10_state 12 = .ok (.new 43, 3) := by decide +kernel
theorem dX10_state_15 : decode cX10_state 15 = .ok (.dup, 1) := by decide +kernel
theorem dX10_state_16 : decode cX10_state 16 = .ok (.ldc 102, 2) := by decide +kernel
theorem dX10_state_18 : decode cX10_state 18 = .ok (.invokespecial 47, 3) := by decide +kernel
theorem dX10_state_21 : decode cX10_state 21 = .ok (.athrow, 1) := by decide +kernel
theorem dX10_state_22 : decode cX10_state 22 = .ok (.iload_n 1, 1) := by decide +kernel
theorem dX10_state_23 : decode cX10_state 23 = .ok (.tableswitch 125 0 6 #[41, 54, 67, 80, 93, 103, 113], 41) := by decide +kernel
theorem dX10_state_64 : decode cX10_state 64 = .ok (.aload_n 0, 1) := by decide +kernel
theorem dX10_state_65 : decode cX10_state 65 = .ok (.getfield 25, 3) := by decide +kernel
theorem dX10_state_68 : decode cX10_state 68 = .ok (.getfield 104, 3) := by decide +kernel
theorem dX10_state_71 : decode cX10_state 71 = .ok (.getfield 108, 3) := by decide +kernel
theorem dX10_state_74 : decode cX10_state 74 = .ok (.iload_n 2, 1) := by decide +kernel
theorem dX10_state_75 : decode cX10_state 75 = .ok (.iaload, 1) := by decide +kernel
theorem dX10_state_76 : decode cX10_state 76 = .ok (.ireturn, 1) := by decide +kernel
theorem dX10_state_77 : decode cX10_state 77 = .ok (.aload_n 0, 1) := by decide +kernel
theorem dX10_state_78 : decode cX10_state 78 = .ok (.getfield 32, 3) := by decide +kernel
theorem dX10_state_81 : decode cX10_state 81 = .ok (.getfield 113, 3) := by decide +kernel
theorem dX10_state_84 : decode cX10_state 84 = .ok (.getfield 108, 3) := by decide +kernel
theorem dX10_state_87 : decode cX10_state 87 = .ok (.iload_n 2, 1) := by decide +kernel
theorem dX10_state_88 : decode cX10_state 88 = .ok (.iaload, 1) := by decide +kernel
theorem dX10_state_89 : decode cX10_state 89 = .ok (.ireturn, 1) := by decide +kernel
theorem dX10_state_90 : decode cX10_state 90 = .ok (.aload_n 0, 1) := by decide +kernel
theorem dX10_state_91 : decode cX10_state 91 = .ok (.getfield 25, 3) := by decide +kernel
theorem dX10_state_94 : decode cX10_state 94 = .ok (.getfield 114, 3) := by decide +kernel
theorem dX10_state_97 : decode cX10_state 97 = .ok (.getfield 118, 3) := by decide +kernel
theorem dX10_state_100 : decode cX10_state 100 = .ok (.iload_n 2, 1) := by decide +kernel
theorem dX10_state_101 : decode cX10_state 101 = .ok (.iaload, 1) := by decide +kernel
theorem dX10_state_102 : decode cX10_state 102 = .ok (.ireturn, 1) := by decide +kernel
theorem dX10_state_103 : decode cX10_state 103 = .ok (.aload_n 0, 1) := by decide +kernel
theorem dX10_state_104 : decode cX10_state 104 = .ok (.getfield 32, 3) := by decide +kernel
theorem dX10_state_107 : decode cX10_state 107 = .ok (.getfield 123, 3) := by decide +kernel
theorem dX10_state_110 : decode cX10_state 110 = .ok (.getfield 118, 3) := by decide +kernel
theorem dX10_state_113 : decode cX10_state 113 = .ok (.iload_n 2, 1) := by decide +kernel
theorem dX10_state_114 : decode cX10_state 114 = .ok (.iaload, 1) := by decide +kernel
theorem dX10_state_115 : decode cX10_state 115 = .ok (.ireturn, 1) := by decide +kernel
theorem dX10_state_116 : decode cX10_state 116 = .ok (.aload_n 0, 1) := by decide +kernel
theorem dX10_state_117 : decode cX10_state 117 = .ok (.getfield 25, 3) := by decide +kernel
theorem dX10_state_120 : decode cX10_state 120 = .ok (.getfield 124, 3) := by decide +kernel
theorem dX10_state_123 : decode cX10_state 123 = .ok (.iload_n 2, 1) := by decide +kernel
theorem dX10_state_124 : decode cX10_state 124 = .ok (.iaload, 1) := by decide +kernel
theorem dX10_state_125 : decode cX10_state 125 = .ok (.ireturn, 1) := by decide +kernel
theorem dX10_state_126 : decode cX10_state 126 = .ok (.aload_n 0, 1) := by decide +kernel
theorem dX10_state_127 : decode cX10_state 127 = .ok (.getfield 32, 3) := by decide +kernel
theorem dX10_state_130 : decode cX10_state 130 = .ok (.getfield 127, 3) := by decide +kernel
theorem dX10_state_133 : decode cX10_state 133 = .ok (.iload_n 2, 1) := by decide +kernel
theorem dX10_state_134 : decode cX10_state 134 = .ok (.iaload, 1) := by decide +kernel
theorem dX10_state_135 : decode cX10_state 135 = .ok (.ireturn, 1) := by decide +kernel
theorem dX10_state_136 : decode cX10_state 136 = .ok (.aload_n 0, 1) := by decide +kernel
theorem dX10_state_137 : decode cX10_state 137 = .ok (.getfield 25, 3) := by decide +kernel
theorem dX10_state_140 : decode cX10_state 140 = .ok (.getfield 130, 3) := by decide +kernel
theorem dX10_state_143 : decode cX10_state 143 = .ok (.iload_n 2, 1) := by decide +kernel
theorem dX10_state_144 : decode cX10_state 144 = .ok (.invokevirtual 134, 3) := by decide +kernel
theorem dX10_state_147 : decode cX10_state 147 = .ok (.ireturn, 1) := by decide +kernel
theorem dX10_state_148 : decode cX10_state 148 = .ok (.iload_n 2, 1) := by decide +kernel
theorem dX10_state_149 : decode cX10_state 149 = .ok (.ifCond .ne 13, 3) := by decide +kernel
theorem dX10_state_152 : decode cX10_state 152 = .ok (.aload_n 0, 1) := by decide +kernel
theorem dX10_state_153 : decode cX10_state 153 = .ok (.getfield 32, 3) := by decide +kernel
theorem dX10_state_156 : decode cX10_state 156 = .ok (.getfield 139, 3) := by decide +kernel
theorem dX10_state_159 : decode cX10_state 159 = .ok (.goto 10, 3) := by decide +kernel
theorem dX10_state_162 : decode cX10_state 162 = .ok (.aload_n 0, 1) := by decide +kernel
theorem dX10_state_163 : decode cX10_state 163 = .ok (.getfield 32, 3) := by decide +kernel
theorem dX10_state_166 : decode cX10_state 166 = .ok (.getfield 142, 3) := by decide +kernel
theorem dX10_state_169 : decode cX10_state 169 = .ok (.ireturn, 1) := by decide +kernel
theorem dX10_about_0 : decode cX10_about 0 = .ok (.iload_n 1, 1) := by decide +kernel
theorem dX10_about_1 : decode cX10_about 1 = .ok (.tableswitch 57 0 3 #[31, 36, 41, 49], 31) := by decide +kernel
theorem dX10_about_32 : decode cX10_about 32 = .ok (.aload_n 0, 1) := by decide +kernel
theorem dX10_about_33 : decode cX10_about 33 = .ok (.getfield 36, 3) := by decide +kernel
theorem dX10_about_36 : decode cX10_about 36 = .ok (.ireturn, 1) := by decide +kernel
theorem dX10_about_37 : decode cX10_about 37 = .ok (.aload_n 0, 1) := by decide +kernel
theorem dX10_about_38 : decode cX10_about 38 = .ok (.getfield 40, 3) := by decide +kernel
theorem dX10_about_41 : decode cX10_about 41 = .ok (.ireturn, 1) := by decide +kernel
theorem dX10_about_42 : decode cX10_about 42 = .ok (.aload_n 0, 1) := by decide +kernel
theorem dX10_about_43 : decode cX10_about 43 = .ok (.getfield 25, 3) := by decide +kernel
theorem dX10_about_46 : decode cX10_about 46 = .ok (.getfield 65, 3) := by decide +kernel
theorem dX10_about_49 : decode cX10_about 49 = .ok (.ireturn, 1) := by decide +kernel
theorem dX10_about_50 : decode cX10_about 50 = .ok (.aload_n 0, 1) := by decide +kernel
theorem dX10_about_51 : decode cX10_about 51 = .ok (.getfield 32, 3) := by decide +kernel
theorem dX10_about_54 : decode cX10_about 54 = .ok (.getfield 83, 3) := by decide +kernel
theorem dX10_about_57 : decode cX10_about 57 = .ok (.ireturn, 1) := by decide +kernel
theorem dX10_about_58 : decode cX10_about 58 = .ok (.new 43, 3) := by decide +kernel
theorem dX10_about_61 : decode cX10_about 61 = .ok (.dup, 1) := by decide +kernel
theorem dX10_about_62 : decode cX10_about 62 = .ok (.ldc 145, 2) := by decide +kernel
theorem dX10_about_64 : decode cX10_about 64 = .ok (.invokespecial 47, 3) := by decide +kernel
theorem dX10_about_67 : decode cX10_about 67 = .ok (.athrow, 1) := by decide +kernel
theorem dX10_stateCells_0 : decode cX10_stateCells 0 = .ok (.iload_n 0, 1) := by decide +kernel
theorem dX10_stateCells_1 : decode cX10_stateCells 1 = .ok (.tableswitch 57 0 7 #[47, 47, 50, 50, 47, 47, 53, 55], 47) := by decide +kernel
theorem dX10_stateCells_48 : decode cX10_stateCells 48 = .ok (.bipush 8, 2) := by decide +kernel
theorem dX10_stateCells_50 : decode cX10_stateCells 50 = .ok (.ireturn, 1) := by decide +kernel
theorem dX10_stateCells_51 : decode cX10_stateCells 51 = .ok (.bipush 120, 2) := by decide +kernel
theorem dX10_stateCells_53 : decode cX10_stateCells 53 = .ok (.ireturn, 1) := by decide +kernel
theorem dX10_stateCells_54 : decode cX10_stateCells 54 = .ok (.iconst 3, 1) := by decide +kernel
theorem dX10_stateCells_55 : decode cX10_stateCells 55 = .ok (.ireturn, 1) := by decide +kernel
theorem dX10_stateCells_56 : decode cX10_stateCells 56 = .ok (.iconst 2, 1) := by decide +kernel
theorem dX10_stateCells_57 : decode cX10_stateCells 57 = .ok (.ireturn, 1) := by decide +kernel
theorem dX10_stateCells_58 : decode cX10_stateCells 58 = .ok (.iconst 0, 1) := by decide +kernel
theorem dX10_stateCells_59 : decode cX10_stateCells 59 = .ok (.ireturn, 1) := by decide +kernel
theorem dX10_bitsOf_0 : decode cX10_bitsOf 0 = .ok (.iload_n 0, 1) := by decide +kernel
theorem dX10_bitsOf_1 : decode cX10_bitsOf 1 = .ok (.bipush 8, 2) := by decide +kernel
theorem dX10_bitsOf_3 : decode cX10_bitsOf 3 = .ok (.if_icmp .ge 9, 3) := by decide +kernel
theorem dX10_bitsOf_6 : decode cX10_bitsOf 6 = .ok (.getstatic 147, 3) := by decide +kernel
theorem dX10_bitsOf_9 : decode cX10_bitsOf 9 = .ok (.iload_n 0, 1) := by decide +kernel
theorem dX10_bitsOf_10 : decode cX10_bitsOf 10 = .ok (.iaload, 1) := by decide +kernel
theorem dX10_bitsOf_11 : decode cX10_bitsOf 11 = .ok (.ireturn, 1) := by decide +kernel
theorem dX10_bitsOf_12 : decode cX10_bitsOf 12 = .ok (.iload_n 0, 1) := by decide +kernel
theorem dX10_bitsOf_13 : decode cX10_bitsOf 13 = .ok (.bipush 8, 2) := by decide +kernel
theorem dX10_bitsOf_15 : decode cX10_bitsOf 15 = .ok (.isub, 1) := by decide +kernel
theorem dX10_bitsOf_16 : decode cX10_bitsOf 16 = .ok (.bipush 17, 2) := by decide +kernel
theorem dX10_bitsOf_18 : decode cX10_bitsOf 18 = .ok (.irem, 1) := by decide +kernel
theorem dX10_bitsOf_19 : decode cX10_bitsOf 19 = .ok (.istore_n 1, 1) := by decide +kernel
theorem dX10_bitsOf_20 : decode cX10_bitsOf 20 = .ok (.iload_n 1, 1) := by decide +kernel
theorem dX10_bitsOf_21 : decode cX10_bitsOf 21 = .ok (.getstatic 150, 3) := by decide +kernel
theorem dX10_bitsOf_24 : decode cX10_bitsOf 24 = .ok (.arraylength, 1) := by decide +kernel
theorem dX10_bitsOf_25 : decode cX10_bitsOf 25 = .ok (.if_icmp .ge 11, 3) := by decide +kernel
theorem dX10_bitsOf_28 : decode cX10_bitsOf 28 = .ok (.getstatic 150, 3) := by decide +kernel
theorem dX10_bitsOf_31 : decode cX10_bitsOf 31 = .ok (.iload_n 1, 1) := by decide +kernel
theorem dX10_bitsOf_32 : decode cX10_bitsOf 32 = .ok (.iaload, 1) := by decide +kernel
theorem dX10_bitsOf_33 : decode cX10_bitsOf 33 = .ok (.goto 4, 3) := by decide +kernel
theorem dX10_bitsOf_36 : decode cX10_bitsOf 36 = .ok (.iconst 3, 1) := by decide +kernel
theorem dX10_bitsOf_37 : decode cX10_bitsOf 37 = .ok (.ireturn, 1) := by decide +kernel
theorem dX10_pack_0 : decode cX10_pack 0 = .ok (.aload_n 0, 1) := by decide +kernel
theorem dX10_pack_1 : decode cX10_pack 1 = .ok (.getfield 13, 3) := by decide +kernel
theorem dX10_pack_4 : decode cX10_pack 4 = .ok (.iconst 0, 1) := by decide +kernel
theorem dX10_pack_5 : decode cX10_pack 5 = .ok (.invokestatic 92, 3) := by decide +kernel
theorem dX10_pack_8 : decode cX10_pack 8 = .ok (.aload_n 0, 1) := by decide +kernel
theorem dX10_pack_9 : decode cX10_pack 9 = .ok (.getfield 13, 3) := by decide +kernel
theorem dX10_pack_12 : decode cX10_pack 12 = .ok (.iconst 0, 1) := by decide +kernel
theorem dX10_pack_13 : decode cX10_pack 13 = .ok (.sipush 208, 3) := by decide +kernel
theorem dX10_pack_16 : decode cX10_pack 16 = .ok (.iastore, 1) := by decide +kernel
theorem dX10_pack_17 : decode cX10_pack 17 = .ok (.iconst 4, 1) := by decide +kernel
theorem dX10_pack_18 : decode cX10_pack 18 = .ok (.istore_n 1, 1) := by decide +kernel
theorem dX10_pack_19 : decode cX10_pack 19 = .ok (.iconst 0, 1) := by decide +kernel
theorem dX10_pack_20 : decode cX10_pack 20 = .ok (.istore_n 2, 1) := by decide +kernel
theorem dX10_pack_21 : decode cX10_pack 21 = .ok (.iload_n 2, 1) := by decide +kernel
theorem dX10_pack_22 : decode cX10_pack 22 = .ok (.bipush 76, 2) := by decide +kernel
theorem dX10_pack_24 : decode cX10_pack 24 = .ok (.if_icmp .ge 62, 3) := by decide +kernel
theorem dX10_pack_27 : decode cX10_pack 27 = .ok (.iload_n 2, 1) := by decide +kernel
theorem dX10_pack_28 : decode cX10_pack 28 = .ok (.invokestatic 153, 3) := by decide +kernel
theorem dX10_pack_31 : decode cX10_pack 31 = .ok (.iconst 1, 1) := by decide +kernel
theorem dX10_pack_32 : decode cX10_pack 32 = .ok (.isub, 1) := by decide +kernel
theorem dX10_pack_33 : decode cX10_pack 33 = .ok (.istore_n 3, 1) := by decide +kernel
theorem dX10_pack_34 : decode cX10_pack 34 = .ok (.iload_n 3, 1) := by decide +kernel
theorem dX10_pack_35 : decode cX10_pack 35 = .ok (.ifCond .lt 45, 3) := by decide +kernel
theorem dX10_pack_38 : decode cX10_pack 38 = .ok (.aload_n 0, 1) := by decide +kernel
theorem dX10_pack_39 : decode cX10_pack 39 = .ok (.getfield 16, 3) := by decide +kernel
theorem dX10_pack_42 : decode cX10_pack 42 = .ok (.iload_n 2, 1) := by decide +kernel
theorem dX10_pack_43 : decode cX10_pack 43 = .ok (.iaload, 1) := by decide +kernel
theorem dX10_pack_44 : decode cX10_pack 44 = .ok (.iload_n 3, 1) := by decide +kernel
theorem dX10_pack_45 : decode cX10_pack 45 = .ok (.ishr, 1) := by decide +kernel
theorem dX10_pack_46 : decode cX10_pack 46 = .ok (.iconst 1, 1) := by decide +kernel
theorem dX10_pack_47 : decode cX10_pack 47 = .ok (.iand, 1) := by decide +kernel
theorem dX10_pack_48 : decode cX10_pack 48 = .ok (.istore 4, 2) := by decide +kernel
theorem dX10_pack_50 : decode cX10_pack 50 = .ok (.aload_n 0, 1) := by decide +kernel
theorem dX10_pack_51 : decode cX10_pack 51 = .ok (.getfield 13, 3) := by decide +kernel
theorem dX10_pack_54 : decode cX10_pack 54 = .ok (.iload_n 1, 1) := by decide +kernel
theorem dX10_pack_55 : decode cX10_pack 55 = .ok (.iconst 3, 1) := by decide +kernel
theorem dX10_pack_56 : decode cX10_pack 56 = .ok (.ishr, 1) := by decide +kernel
theorem dX10_pack_57 : decode cX10_pack 57 = .ok (.dup2, 1) := by decide +kernel
theorem dX10_pack_58 : decode cX10_pack 58 = .ok (.iaload, 1) := by decide +kernel
theorem dX10_pack_59 : decode cX10_pack 59 = .ok (.iload 4, 2) := by decide +kernel
theorem dX10_pack_61 : decode cX10_pack 61 = .ok (.bipush 7, 2) := by decide +kernel
theorem dX10_pack_63 : decode cX10_pack 63 = .ok (.iload_n 1, 1) := by decide +kernel
theorem dX10_pack_64 : decode cX10_pack 64 = .ok (.bipush 7, 2) := by decide +kernel
theorem dX10_pack_66 : decode cX10_pack 66 = .ok (.iand, 1) := by decide +kernel
theorem dX10_pack_67 : decode cX10_pack 67 = .ok (.isub, 1) := by decide +kernel
theorem dX10_pack_68 : decode cX10_pack 68 = .ok (.ishl, 1) := by decide +kernel
theorem dX10_pack_69 : decode cX10_pack 69 = .ok (.ior, 1) := by decide +kernel
theorem dX10_pack_70 : decode cX10_pack 70 = .ok (.iastore, 1) := by decide +kernel
theorem dX10_pack_71 : decode cX10_pack 71 = .ok (.iinc 1 1, 3) := by decide +kernel
theorem dX10_pack_74 : decode cX10_pack 74 = .ok (.iinc 3 (-1), 3) := by decide +kernel
theorem dX10_pack_77 : decode cX10_pack 77 = .ok (.goto (-43), 3) := by decide +kernel
theorem dX10_pack_80 : decode cX10_pack 80 = .ok (.iinc 2 1, 3) := by decide +kernel
theorem dX10_pack_83 : decode cX10_pack 83 = .ok (.goto (-62), 3) := by decide +kernel
theorem dX10_pack_86 : decode cX10_pack 86 = .ok (.return_, 1) := by decide +kernel
theorem dX10_unpack_0 : decode cX10_unpack 0 = .ok (.iconst 4, 1) := by decide +kernel
theorem dX10_unpack_1 : decode cX10_unpack 1 = .ok (.istore_n 1, 1) := by decide +kernel
theorem dX10_unpack_2 : decode cX10_unpack 2 = .ok (.iconst 0, 1) := by decide +kernel
theorem dX10_unpack_3 : decode cX10_unpack 3 = .ok (.istore_n 2, 1) := by decide +kernel
theorem dX10_unpack_4 : decode cX10_unpack 4 = .ok (.iload_n 2, 1) := by decide +kernel
theorem dX10_unpack_5 : decode cX10_unpack 5 = .ok (.bipush 76, 2) := by decide +kernel
theorem dX10_unpack_7 : decode cX10_unpack 7 = .ok (.if_icmp .ge 67, 3) := by decide +kernel
theorem dX10_unpack_10 : decode cX10_unpack 10 = .ok (.iconst 0, 1) := by decide +kernel
theorem dX10_unpack_11 : decode cX10_unpack 11 = .ok (.istore_n 3, 1) := by decide +kernel
theorem dX10_unpack_12 : decode cX10_unpack 12 = .ok (.iload_n 2, 1) := by decide +kernel
theorem dX10_unpack_13 : decode cX10_unpack 13 = .ok (.invokestatic 153, 3) := by decide +kernel
theorem dX10_unpack_16 : decode cX10_unpack 16 = .ok (.iconst 1, 1) := by decide +kernel
theorem dX10_unpack_17 : decode cX10_unpack 17 = .ok (.isub, 1) := by decide +kernel
theorem dX10_unpack_18 : decode cX10_unpack 18 = .ok (.istore 4, 2) := by decide +kernel
theorem dX10_unpack_20 : decode cX10_unpack 20 = .ok (.iload 4, 2) := by decide +kernel
theorem dX10_unpack_22 : decode cX10_unpack 22 = .ok (.ifCond .lt 39, 3) := by decide +kernel
theorem dX10_unpack_25 : decode cX10_unpack 25 = .ok (.aload_n 0, 1) := by decide +kernel
theorem dX10_unpack_26 : decode cX10_unpack 26 = .ok (.getfield 13, 3) := by decide +kernel
theorem dX10_unpack_29 : decode cX10_unpack 29 = .ok (.iload_n 1, 1) := by decide +kernel
theorem dX10_unpack_30 : decode cX10_unpack 30 = .ok (.iconst 3, 1) := by decide +kernel
theorem dX10_unpack_31 : decode cX10_unpack 31 = .ok (.ishr, 1) := by decide +kernel
theorem dX10_unpack_32 : decode cX10_unpack 32 = .ok (.iaload, 1) := by decide +kernel
theorem dX10_unpack_33 : decode cX10_unpack 33 = .ok (.bipush 7, 2) := by decide +kernel
theorem dX10_unpack_35 : decode cX10_unpack 35 = .ok (.iload_n 1, 1) := by decide +kernel
theorem dX10_unpack_36 : decode cX10_unpack 36 = .ok (.bipush 7, 2) := by decide +kernel
theorem dX10_unpack_38 : decode cX10_unpack 38 = .ok (.iand, 1) := by decide +kernel
theorem dX10_unpack_39 : decode cX10_unpack 39 = .ok (.isub, 1) := by decide +kernel
theorem dX10_unpack_40 : decode cX10_unpack 40 = .ok (.ishr, 1) := by decide +kernel
theorem dX10_unpack_41 : decode cX10_unpack 41 = .ok (.iconst 1, 1) := by decide +kernel
theorem dX10_unpack_42 : decode cX10_unpack 42 = .ok (.iand, 1) := by decide +kernel
theorem dX10_unpack_43 : decode cX10_unpack 43 = .ok (.istore 5, 2) := by decide +kernel
theorem dX10_unpack_45 : decode cX10_unpack 45 = .ok (.iconst 2, 1) := by decide +kernel
theorem dX10_unpack_46 : decode cX10_unpack 46 = .ok (.iload_n 3, 1) := by decide +kernel
theorem dX10_unpack_47 : decode cX10_unpack 47 = .ok (.imul, 1) := by decide +kernel
theorem dX10_unpack_48 : decode cX10_unpack 48 = .ok (.iload 5, 2) := by decide +kernel
theorem dX10_unpack_50 : decode cX10_unpack 50 = .ok (.iadd, 1) := by decide +kernel
theorem dX10_unpack_51 : decode cX10_unpack 51 = .ok (.istore_n 3, 1) := by decide +kernel
theorem dX10_unpack_52 : decode cX10_unpack 52 = .ok (.iinc 1 1, 3) := by decide +kernel
theorem dX10_unpack_55 : decode cX10_unpack 55 = .ok (.iinc 4 (-1), 3) := by decide +kernel
theorem dX10_unpack_58 : decode cX10_unpack 58 = .ok (.goto (-38), 3) := by decide +kernel
theorem dX10_unpack_61 : decode cX10_unpack 61 = .ok (.aload_n 0, 1) := by decide +kernel
theorem dX10_unpack_62 : decode cX10_unpack 62 = .ok (.getfield 16, 3) := by decide +kernel
theorem dX10_unpack_65 : decode cX10_unpack 65 = .ok (.iload_n 2, 1) := by decide +kernel
theorem dX10_unpack_66 : decode cX10_unpack 66 = .ok (.iload_n 3, 1) := by decide +kernel
theorem dX10_unpack_67 : decode cX10_unpack 67 = .ok (.iastore, 1) := by decide +kernel
theorem dX10_unpack_68 : decode cX10_unpack 68 = .ok (.iinc 2 1, 3) := by decide +kernel
theorem dX10_unpack_71 : decode cX10_unpack 71 = .ok (.goto (-67), 3) := by decide +kernel
theorem dX10_unpack_74 : decode cX10_unpack 74 = .ok (.return_, 1) := by decide +kernel
end
section
theorem dX11_init_0 : decode cX11_init 0 = .ok (.aload_n 0, 1) := by decide +kernel
theorem dX11_init_1 : decode cX11_init 1 = .ok (.invokespecial 1, 3) := by decide +kernel
theorem dX11_init_4 : decode cX11_init 4 = .ok (.aload_n 0, 1) := by decide +kernel
theorem dX11_init_5 : decode cX11_init 5 = .ok (.sipush 160, 3) := by decide +kernel
theorem dX11_init_8 : decode cX11_init 8 = .ok (.newarray .long, 2) := by decide +kernel
theorem dX11_init_10 : decode cX11_init 10 = .ok (.putfield 7, 3) := by decide +kernel
theorem dX11_init_13 : decode cX11_init 13 = .ok (.aload_n 0, 1) := by decide +kernel
theorem dX11_init_14 : decode cX11_init 14 = .ok (.bipush 33, 2) := by decide +kernel
theorem dX11_init_16 : decode cX11_init 16 = .ok (.newarray .int, 2) := by decide +kernel
theorem dX11_init_18 : decode cX11_init 18 = .ok (.putfield 13, 3) := by decide +kernel
theorem dX11_init_21 : decode cX11_init 21 = .ok (.aload_n 0, 1) := by decide +kernel
theorem dX11_init_22 : decode cX11_init 22 = .ok (.bipush 76, 2) := by decide +kernel
theorem dX11_init_24 : decode cX11_init 24 = .ok (.newarray .int, 2) := by decide +kernel
theorem dX11_init_26 : decode cX11_init 26 = .ok (.putfield 17, 3) := by decide +kernel
theorem dX11_init_29 : decode cX11_init 29 = .ok (.aload_n 0, 1) := by decide +kernel
theorem dX11_init_30 : decode cX11_init 30 = .ok (.sipush 160, 3) := by decide +kernel
theorem dX11_init_33 : decode cX11_init 33 = .ok (.newarray .int, 2) := by decide +kernel
theorem dX11_init_35 : decode cX11_init 35 = .ok (.putfield 20, 3) := by decide +kernel
theorem dX11_init_38 : decode cX11_init 38 = .ok (.aload_n 0, 1) := by decide +kernel
theorem dX11_init_39 : decode cX11_init 39 = .ok (.bipush 16, 2) := by decide +kernel
theorem dX11_init_41 : decode cX11_init 41 = .ok (.newarray .long, 2) := by decide +kernel
theorem dX11_init_43 : decode cX11_init 43 = .ok (.putfield 23, 3) := by decide +kernel
theorem dX11_init_46 : decode cX11_init 46 = .ok (.aload_n 0, 1) := by decide +kernel
theorem dX11_init_47 : decode cX11_init 47 = .ok (.bipush 9, 2) := by decide +kernel
theorem dX11_init_49 : decode cX11_init 49 = .ok (.newarray .long, 2) := by decide +kernel
theorem dX11_init_51 : decode cX11_init 51 = .ok (.putfield 26, 3) := by decide +kernel
theorem dX11_init_54 : decode cX11_init 54 = .ok (.aload_n 0, 1) := by decide +kernel
theorem dX11_init_55 : decode cX11_init 55 = .ok (.bipush 9, 2) := by decide +kernel
theorem dX11_init_57 : decode cX11_init 57 = .ok (.newarray .long, 2) := by decide +kernel
theorem dX11_init_59 : decode cX11_init 59 = .ok (.putfield 29, 3) := by decide +kernel
theorem dX11_init_62 : decode cX11_init 62 = .ok (.aload_n 0, 1) := by decide +kernel
theorem dX11_init_63 : decode cX11_init 63 = .ok (.sipush 560, 3) := by decide +kernel
theorem dX11_init_66 : decode cX11_init 66 = .ok (.newarray .long, 2) := by decide +kernel
theorem dX11_init_68 : decode cX11_init 68 = .ok (.putfield 32, 3) := by decide +kernel
theorem dX11_init_71 : decode cX11_init 71 = .ok (.aload_n 0, 1) := by decide +kernel
theorem dX11_init_72 : decode cX11_init 72 = .ok (.bipush 40, 2) := by decide +kernel
theorem dX11_init_74 : decode cX11_init 74 = .ok (.putfield 35, 3) := by decide +kernel
theorem dX11_init_77 : decode cX11_init 77 = .ok (.aload_n 0, 1) := by decide +kernel
theorem dX11_init_78 : decode cX11_init 78 = .ok (.sipush 160, 3) := by decide +kernel
theorem dX11_init_81 : decode cX11_init 81 = .ok (.newarray .long, 2) := by decide +kernel
theorem dX11_init_83 : decode cX11_init 83 = .ok (.putfield 39, 3) := by decide +kernel
theorem dX11_init_86 : decode cX11_init 86 = .ok (.aload_n 0, 1) := by decide +kernel
theorem dX11_init_87 : decode cX11_init 87 = .ok (.sipush 160, 3) := by decide +kernel
theorem dX11_init_90 : decode cX11_init 90 = .ok (.newarray .long, 2) := by decide +kernel
theorem dX11_init_92 : decode cX11_init 92 = .ok (.putfield 42, 3) := by decide +kernel
theorem dX11_init_95 : decode cX11_init 95 = .ok (.aload_n 0, 1) := by decide +kernel
theorem dX11_init_96 : decode cX11_init 96 = .ok (.bipush 40, 2) := by decide +kernel
theorem dX11_init_98 : decode cX11_init 98 = .ok (.newarray .long, 2) := by decide +kernel
theorem dX11_init_100 : decode cX11_init 100 = .ok (.putfield 45, 3) := by decide +kernel
theorem dX11_init_103 : decode cX11_init 103 = .ok (.aload_n 0, 1) := by decide +kernel
theorem dX11_init_104 : decode cX11_init 104 = .ok (.bipush 40, 2) := by decide +kernel
theorem dX11_init_106 : decode cX11_init 106 = .ok (.newarray .long, 2) := by decide +kernel
theorem dX11_init_108 : decode cX11_init 108 = .ok (.putfield 48, 3) := by decide +kernel
theorem dX11_init_111 : decode cX11_init 111 = .ok (.aload_n 0, 1) := by decide +kernel
theorem dX11_init_112 : decode cX11_init 112 = .ok (.bipush 9, 2) := by decide +kernel
theorem dX11_init_114 : decode cX11_init 114 = .ok (.newarray .long, 2) := by decide +kernel
theorem dX11_init_116 : decode cX11_init 116 = .ok (.putfield 51, 3) := by decide +kernel
theorem dX11_init_119 : decode cX11_init 119 = .ok (.aload_n 0, 1) := by decide +kernel
theorem dX11_init_120 : decode cX11_init 120 = .ok (.bipush 10, 2) := by decide +kernel
theorem dX11_init_122 : decode cX11_init 122 = .ok (.newarray .long, 2) := by decide +kernel
theorem dX11_init_124 : decode cX11_init 124 = .ok (.putfield 54, 3) := by decide +kernel
theorem dX11_init_127 : decode cX11_init 127 = .ok (.aload_n 0, 1) := by decide +kernel
theorem dX11_init_128 : decode cX11_init 128 = .ok (.bipush 10, 2) := by decide +kernel
theorem dX11_init_130 : decode cX11_init 130 = .ok (.newarray .long, 2) := by decide +kernel
theorem dX11_init_132 : decode cX11_init 132 = .ok (.putfield 57, 3) := by decide +kernel
theorem dX11_init_135 : decode cX11_init 135 = .ok (.aload_n 0, 1) := by decide +kernel
theorem dX11_init_136 : decode cX11_init 136 = .ok (.bipush 9, 2) := by decide +kernel
theorem dX11_init_138 : decode cX11_init 138 = .ok (.newarray .long, 2) := by decide +kernel
theorem dX11_init_140 : decode cX11_init 140 = .ok (.putfield 60, 3) := by decide +kernel
theorem dX11_init_143 : decode cX11_init 143 = .ok (.aload_n 0, 1) := by decide +kernel
theorem dX11_init_144 : decode cX11_init 144 = .ok (.bipush 8, 2) := by decide +kernel
theorem dX11_init_146 : decode cX11_init 146 = .ok (.newarray .long, 2) := by decide +kernel
theorem dX11_init_148 : decode cX11_init 148 = .ok (.putfield 63, 3) := by decide +kernel
theorem dX11_init_151 : decode cX11_init 151 = .ok (.aload_n 0, 1) := by decide +kernel
theorem dX11_init_152 : decode cX11_init 152 = .ok (.bipush 40, 2) := by decide +kernel
theorem dX11_init_154 : decode cX11_init 154 = .ok (.newarray .long, 2) := by decide +kernel
theorem dX11_init_156 : decode cX11_init 156 = .ok (.putfield 66, 3) := by decide +kernel
theorem dX11_init_159 : decode cX11_init 159 = .ok (.return_, 1) := by decide +kernel
theorem dX11_thrown_0 : decode cX11_thrown 0 = .ok (.aload_n 0, 1) := by decide +kernel
theorem dX11_thrown_1 : decode cX11_thrown 1 = .ok (.getfield 69, 3) := by decide +kernel
theorem dX11_thrown_4 : decode cX11_thrown 4 = .ok (.ireturn, 1) := by decide +kernel
theorem dX11_refuses_0 : decode cX11_refuses 0 = .ok (.aload_n 0, 1) := by decide +kernel
theorem dX11_refuses_1 : decode cX11_refuses 1 = .ok (.iload_n 1, 1) := by decide +kernel
theorem dX11_refuses_2 : decode cX11_refuses 2 = .ok (.putfield 69, 3) := by decide +kernel
theorem dX11_refuses_5 : decode cX11_refuses 5 = .ok (.iload_n 1, 1) := by decide +kernel
theorem dX11_refuses_6 : decode cX11_refuses 6 = .ok (.ifCond .le 7, 3) := by decide +kernel
theorem dX11_refuses_9 : decode cX11_refuses 9 = .ok (.iconst 1, 1) := by decide +kernel
theorem dX11_refuses_10 : decode cX11_refuses 10 = .ok (.goto 4, 3) := by decide +kernel
theorem dX11_refuses_13 : decode cX11_refuses 13 = .ok (.iconst 0, 1) := by decide +kernel
theorem dX11_refuses_14 : decode cX11_refuses 14 = .ok (.ireturn, 1) := by decide +kernel
theorem dX11_cut_0 : decode cX11_cut 0 = .ok (.lload_n 0, 1) := by decide +kernel
theorem dX11_cut_1 : decode cX11_cut 1 = .ok (.ldc2_w 72, 3) := by decide +kernel
theorem dX11_cut_4 : decode cX11_cut 4 = .ok (.lcmp, 1) := by decide +kernel
theorem dX11_cut_5 : decode cX11_cut 5 = .ok (.ifCond .le 9, 3) := by decide +kernel
theorem dX11_cut_8 : decode cX11_cut 8 = .ok (.ldc2_w 72, 3) := by decide +kernel
theorem dX11_cut_11 : decode cX11_cut 11 = .ok (.goto 18, 3) := by decide +kernel
theorem dX11_cut_14 : decode cX11_cut 14 = .ok (.lload_n 0, 1) := by decide +kernel
theorem dX11_cut_15 : decode cX11_cut 15 = .ok (.ldc2_w 74, 3) := by decide +kernel
theorem dX11_cut_18 : decode cX11_cut 18 = .ok (.lcmp, 1) := by decide +kernel
theorem dX11_cut_19 : decode cX11_cut 19 = .ok (.ifCond .ge 9, 3) := by decide +kernel
theorem dX11_cut_22 : decode cX11_cut 22 = .ok (.ldc2_w 74, 3) := by decide +kernel
theorem dX11_cut_25 : decode cX11_cut 25 = .ok (.goto 4, 3) := by decide +kernel
theorem dX11_cut_28 : decode cX11_cut 28 = .ok (.lload_n 0, 1) := by decide +kernel
theorem dX11_cut_29 : decode cX11_cut 29 = .ok (.lreturn, 1) := by decide +kernel
theorem dX11_wide_0 : decode cX11_wide 0 = .ok (.lload_n 0, 1) := by decide +kernel
theorem dX11_wide_1 : decode cX11_wide 1 = .ok (.ldc2_w 76, 3) := by decide +kernel
theorem dX11_wide_4 : decode cX11_wide 4 = .ok (.lcmp, 1) := by decide +kernel
theorem dX11_wide_5 : decode cX11_wide 5 = .ok (.ifCond .le 9, 3) := by decide +kernel
theorem dX11_wide_8 : decode cX11_wide 8 = .ok (.ldc2_w 76, 3) := by decide +kernel
theorem dX11_wide_11 : decode cX11_wide 11 = .ok (.goto 18, 3) := by decide +kernel
theorem dX11_wide_14 : decode cX11_wide 14 = .ok (.lload_n 0, 1) := by decide +kernel
theorem dX11_wide_15 : decode cX11_wide 15 = .ok (.ldc2_w 78, 3) := by decide +kernel
theorem dX11_wide_18 : decode cX11_wide 18 = .ok (.lcmp, 1) := by decide +kernel
theorem dX11_wide_19 : decode cX11_wide 19 = .ok (.ifCond .ge 9, 3) := by decide +kernel
theorem dX11_wide_22 : decode cX11_wide 22 = .ok (.ldc2_w 78, 3) := by decide +kernel
theorem dX11_wide_25 : decode cX11_wide 25 = .ok (.goto 4, 3) := by decide +kernel
theorem dX11_wide_28 : decode cX11_wide 28 = .ok (.lload_n 0, 1) := by decide +kernel
theorem dX11_wide_29 : decode cX11_wide 29 = .ok (.lreturn, 1) := by decide +kernel
theorem dX11_rounded_0 : decode cX11_rounded 0 = .ok (.lload_n 0, 1) := by decide +kernel
theorem dX11_rounded_1 : decode cX11_rounded 1 = .ok (.lload_n 2, 1) := by decide +kernel
theorem dX11_rounded_2 : decode cX11_rounded 2 = .ok (.lmul, 1) := by decide +kernel
theorem dX11_rounded_3 : decode cX11_rounded 3 = .ok (.ldc2_w 80, 3) := by decide +kernel
theorem dX11_rounded_6 : decode cX11_rounded 6 = .ok (.ladd, 1) := by decide +kernel
theorem dX11_rounded_7 : decode cX11_rounded 7 = .ok (.bipush 15, 2) := by decide +kernel
theorem dX11_rounded_9 : decode cX11_rounded 9 = .ok (.lshr, 1) := by decide +kernel
theorem dX11_rounded_10 : decode cX11_rounded 10 = .ok (.invokestatic 82, 3) := by decide +kernel
theorem dX11_rounded_13 : decode cX11_rounded 13 = .ok (.lreturn, 1) := by decide +kernel
theorem dX11_lower_0 : decode cX11_lower 0 = .ok (.lload_n 0, 1) := by decide +kernel
theorem dX11_lower_1 : decode cX11_lower 1 = .ok (.lload_n 2, 1) := by decide +kernel
theorem dX11_lower_2 : decode cX11_lower 2 = .ok (.lmul, 1) := by decide +kernel
theorem dX11_lower_3 : decode cX11_lower 3 = .ok (.bipush 15, 2) := by decide +kernel
theorem dX11_lower_5 : decode cX11_lower 5 = .ok (.lshr, 1) := by decide +kernel
theorem dX11_lower_6 : decode cX11_lower 6 = .ok (.invokestatic 82, 3) := by decide +kernel
theorem dX11_lower_9 : decode cX11_lower 9 = .ok (.lreturn, 1) := by decide +kernel
theorem dX11_size_0 : decode cX11_size 0 = .ok (.lload_n 0, 1) := by decide +kernel
theorem dX11_size_1 : decode cX11_size 1 = .ok (.lconst 0, 1) := by decide +kernel
theorem dX11_size_2 : decode cX11_size 2 = .ok (.lcmp, 1) := by decide +kernel
theorem dX11_size_3 : decode cX11_size 3 = .ok (.ifCond .ge 8, 3) := by decide +kernel
theorem dX11_size_6 : decode cX11_size 6 = .ok (.lload_n 0, 1) := by decide +kernel
theorem dX11_size_7 : decode cX11_size 7 = .ok (.lneg, 1) := by decide +kernel
theorem dX11_size_8 : decode cX11_size 8 = .ok (.goto 4, 3) := by decide +kernel
theorem dX11_size_11 : decode cX11_size 11 = .ok (.lload_n 0, 1) := by decide +kernel
theorem dX11_size_12 : decode cX11_size 12 = .ok (.invokestatic 82, 3) := by decide +kernel
theorem dX11_size_15 : decode cX11_size 15 = .ok (.lreturn, 1) := by decide +kernel
theorem dX11_norm_0 : decode cX11_norm 0 = .ok (.iconst 0, 1) := by decide +kernel
theorem dX11_norm_1 : decode cX11_norm 1 = .ok (.istore_n 2, 1) := by decide +kernel
theorem dX11_norm_2 : decode cX11_norm 2 = .ok (.lload_n 0, 1) := by decide +kernel
theorem dX11_norm_3 : decode cX11_norm 3 = .ok (.iload_n 2, 1) := by decide +kernel
theorem dX11_norm_4 : decode cX11_norm 4 = .ok (.lshl, 1) := by decide +kernel
theorem dX11_norm_5 : decode cX11_norm 5 = .ok (.ldc2_w 86, 3) := by decide +kernel
theorem dX11_norm_8 : decode cX11_norm 8 = .ok (.lcmp, 1) := by decide +kernel
theorem dX11_norm_9 : decode cX11_norm 9 = .ok (.ifCond .ge 9, 3) := by decide +kernel
theorem dX11_norm_12 : decode cX11_norm 12 = .ok (.iinc 2 1, 3) := by decide +kernel
theorem dX11_norm_15 : decode cX11_norm 15 = .ok (.goto (-13), 3) := by decide +kernel
theorem dX11_norm_18 : decode cX11_norm 18 = .ok (.iload_n 2, 1) := by decide +kernel
theorem dX11_norm_19 : decode cX11_norm 19 = .ok (.ireturn, 1) := by decide +kernel
theorem dX11_bits_0 : decode cX11_bits 0 = .ok (.iload_n 0, 1) := by decide +kernel
theorem dX11_bits_1 : decode cX11_bits 1 = .ok (.bipush 8, 2) := by decide +kernel
theorem dX11_bits_3 : decode cX11_bits 3 = .ok (.if_icmp .ge 34, 3) := by decide +kernel
theorem dX11_bits_6 : decode cX11_bits 6 = .ok (.iload_n 0, 1) := by decide +kernel
theorem dX11_bits_7 : decode cX11_bits 7 = .ok (.iconst 2, 1) := by decide +kernel
theorem dX11_bits_8 : decode cX11_bits 8 = .ok (.if_icmp .ge 8, 3) := by decide +kernel
theorem dX11_bits_11 : decode cX11_bits 11 = .ok (.bipush 6, 2) := by decide +kernel
theorem dX11_bits_13 : decode cX11_bits 13 = .ok (.goto 23, 3) := by decide +kernel
theorem dX11_bits_16 : decode cX11_bits 16 = .ok (.iload_n 0, 1) := by decide +kernel
theorem dX11_bits_17 : decode cX11_bits 17 = .ok (.iconst 4, 1) := by decide +kernel
theorem dX11_bits_18 : decode cX11_bits 18 = .ok (.if_icmp .ge 7, 3) := by decide +kernel
theorem dX11_bits_21 : decode cX11_bits 21 = .ok (.iconst 5, 1) := by decide +kernel
theorem dX11_bits_22 : decode cX11_bits 22 = .ok (.goto 14, 3) := by decide +kernel
theorem dX11_bits_25 : decode cX11_bits 25 = .ok (.iload_n 0, 1) := by decide +kernel
theorem dX11_bits_26 : decode cX11_bits 26 = .ok (.bipush 6, 2) := by decide +kernel
theorem dX11_bits_28 : decode cX11_bits 28 = .ok (.if_icmp .ge 7, 3) := by decide +kernel
theorem dX11_bits_31 : decode cX11_bits 31 = .ok (.iconst 4, 1) := by decide +kernel
theorem dX11_bits_32 : decode cX11_bits 32 = .ok (.goto 4, 3) := by decide +kernel
theorem dX11_bits_35 : decode cX11_bits 35 = .ok (.iconst 3, 1) := by decide +kernel
theorem dX11_bits_36 : decode cX11_bits 36 = .ok (.ireturn, 1) := by decide +kernel
theorem dX11_bits_37 : decode cX11_bits 37 = .ok (.iload_n 0, 1) := by decide +kernel
theorem dX11_bits_38 : decode cX11_bits 38 = .ok (.bipush 8, 2) := by decide +kernel
theorem dX11_bits_40 : decode cX11_bits 40 = .ok (.isub, 1) := by decide +kernel
theorem dX11_bits_41 : decode cX11_bits 41 = .ok (.bipush 17, 2) := by decide +kernel
theorem dX11_bits_43 : decode cX11_bits 43 = .ok (.irem, 1) := by decide +kernel
theorem dX11_bits_44 : decode cX11_bits 44 = .ok (.istore_n 1, 1) := by decide +kernel
theorem dX11_bits_45 : decode cX11_bits 45 = .ok (.iload_n 1, 1) := by decide +kernel
theorem dX11_bits_46 : decode cX11_bits 46 = .ok (.ifCond .ne 8, 3) := by decide +kernel
theorem dX11_bits_49 : decode cX11_bits 49 = .ok (.bipush 7, 2) := by decide +kernel
theorem dX11_bits_51 : decode cX11_bits 51 = .ok (.goto 23, 3) := by decide +kernel
theorem dX11_bits_54 : decode cX11_bits 54 = .ok (.iload_n 1, 1) := by decide +kernel
theorem dX11_bits_55 : decode cX11_bits 55 = .ok (.iconst 3, 1) := by decide +kernel
theorem dX11_bits_56 : decode cX11_bits 56 = .ok (.if_icmp .ge 7, 3) := by decide +kernel
theorem dX11_bits_59 : decode cX11_bits 59 = .ok (.iconst 2, 1) := by decide +kernel
theorem dX11_bits_60 : decode cX11_bits 60 = .ok (.goto 14, 3) := by decide +kernel
theorem dX11_bits_63 : decode cX11_bits 63 = .ok (.iload_n 1, 1) := by decide +kernel
theorem dX11_bits_64 : decode cX11_bits 64 = .ok (.iconst 3, 1) := by decide +kernel
theorem dX11_bits_65 : decode cX11_bits 65 = .ok (.if_icmp .ne 8, 3) := by decide +kernel
theorem dX11_bits_68 : decode cX11_bits 68 = .ok (.bipush 6, 2) := by decide +kernel
theorem dX11_bits_70 : decode cX11_bits 70 = .ok (.goto 4, 3) := by decide +kernel
theorem dX11_bits_73 : decode cX11_bits 73 = .ok (.iconst 3, 1) := by decide +kernel
theorem dX11_bits_74 : decode cX11_bits 74 = .ok (.ireturn, 1) := by decide +kernel
theorem dX11_tableA_0 : decode cX11_tableA 0 = .ok (.iload_n 0, 1) := by decide +kernel
theorem dX11_tableA_1 : decode cX11_tableA 1 = .ok (.iconst 4, 1) := by decide +kernel
theorem dX11_tableA_2 : decode cX11_tableA 2 = .ok (.if_icmp .ge 9, 3) := by decide +kernel
theorem dX11_tableA_5 : decode cX11_tableA 5 = .ok (.sipush 20480, 3) := by decide +kernel
theorem dX11_tableA_8 : decode cX11_tableA 8 = .ok (.goto 40, 3) := by decide +kernel
theorem dX11_tableA_11 : decode cX11_tableA 11 = .ok (.iload_n 0, 1) := by decide +kernel
theorem dX11_tableA_12 : decode cX11_tableA 12 = .ok (.iconst 4, 1) := by decide +kernel
theorem dX11_tableA_13 : decode cX11_tableA 13 = .ok (.if_icmp .ne 9, 3) := by decide +kernel
theorem dX11_tableA_16 : decode cX11_tableA 16 = .ok (.sipush 13964, 3) := by decide +kernel
theorem dX11_tableA_19 : decode cX11_tableA 19 = .ok (.goto 29, 3) := by decide +kernel
theorem dX11_tableA_22 : decode cX11_tableA 22 = .ok (.iload_n 0, 1) := by decide +kernel
theorem dX11_tableA_23 : decode cX11_tableA 23 = .ok (.iconst 5, 1) := by decide +kernel
theorem dX11_tableA_24 : decode cX11_tableA 24 = .ok (.if_icmp .ne 9, 3) := by decide +kernel
theorem dX11_tableA_27 : decode cX11_tableA 27 = .ok (.sipush 15360, 3) := by decide +kernel
theorem dX11_tableA_30 : decode cX11_tableA 30 = .ok (.goto 18, 3) := by decide +kernel
theorem dX11_tableA_33 : decode cX11_tableA 33 = .ok (.iload_n 0, 1) := by decide +kernel
theorem dX11_tableA_34 : decode cX11_tableA 34 = .ok (.bipush 6, 2) := by decide +kernel
theorem dX11_tableA_36 : decode cX11_tableA 36 = .ok (.if_icmp .ne 9, 3) := by decide +kernel
theorem dX11_tableA_39 : decode cX11_tableA 39 = .ok (.sipush 8534, 3) := by decide +kernel
theorem dX11_tableA_42 : decode cX11_tableA 42 = .ok (.goto 6, 3) := by decide +kernel
theorem dX11_tableA_45 : decode cX11_tableA 45 = .ok (.sipush 9036, 3) := by decide +kernel
theorem dX11_tableA_48 : decode cX11_tableA 48 = .ok (.ireturn, 1) := by decide +kernel
theorem dX11_tableB_0 : decode cX11_tableB 0 = .ok (.iload_n 0, 1) := by decide +kernel
theorem dX11_tableB_1 : decode cX11_tableB 1 = .ok (.tableswitch 62 2 7 #[39, 43, 47, 50, 54, 58], 39) := by decide +kernel
theorem dX11_tableB_40 : decode cX11_tableB 40 = .ok (.sipush 2048, 3) := by decide +kernel
theorem dX11_tableB_43 : decode cX11_tableB 43 = .ok (.ireturn, 1) := by decide +kernel
theorem dX11_tableB_44 : decode cX11_tableB 44 = .ok (.sipush (-2560), 3) := by decide +kernel
theorem dX11_tableB_47 : decode cX11_tableB 47 = .ok (.ireturn, 1) := by decide +kernel
theorem dX11_tableB_48 : decode cX11_tableB 48 = .ok (.bipush 94, 2) := by decide +kernel
theorem dX11_tableB_50 : decode cX11_tableB 50 = .ok (.ireturn, 1) := by decide +kernel
theorem dX11_tableB_51 : decode cX11_tableB 51 = .ok (.sipush (-1792), 3) := by decide +kernel
theorem dX11_tableB_54 : decode cX11_tableB 54 = .ok (.ireturn, 1) := by decide +kernel
theorem dX11_tableB_55 : decode cX11_tableB 55 = .ok (.sipush (-341), 3) := by decide +kernel
theorem dX11_tableB_58 : decode cX11_tableB 58 = .ok (.ireturn, 1) := by decide +kernel
theorem dX11_tableB_59 : decode cX11_tableB 59 = .ok (.sipush (-1144), 3) := by decide +kernel
theorem dX11_tableB_62 : decode cX11_tableB 62 = .ok (.ireturn, 1) := by decide +kernel
theorem dX11_tableB_63 : decode cX11_tableB 63 = .ok (.iconst 0, 1) := by decide +kernel
theorem dX11_tableB_64 : decode cX11_tableB 64 = .ok (.ireturn, 1) := by decide +kernel
theorem dX11_least_0 : decode cX11_least 0 = .ok (.iload_n 0, 1) := by decide +kernel
theorem dX11_least_1 : decode cX11_least 1 = .ok (.iconst 2, 1) := by decide +kernel
theorem dX11_least_2 : decode cX11_least 2 = .ok (.if_icmp .ge 8, 3) := by decide +kernel
theorem dX11_least_5 : decode cX11_least 5 = .ok (.bipush (-32), 2) := by decide +kernel
theorem dX11_least_7 : decode cX11_least 7 = .ok (.goto 26, 3) := by decide +kernel
theorem dX11_least_10 : decode cX11_least 10 = .ok (.iload_n 0, 1) := by decide +kernel
theorem dX11_least_11 : decode cX11_least 11 = .ok (.iconst 4, 1) := by decide +kernel
theorem dX11_least_12 : decode cX11_least 12 = .ok (.if_icmp .ge 8, 3) := by decide +kernel
theorem dX11_least_15 : decode cX11_least 15 = .ok (.bipush (-16), 2) := by decide +kernel
theorem dX11_least_17 : decode cX11_least 17 = .ok (.goto 16, 3) := by decide +kernel
theorem dX11_least_20 : decode cX11_least 20 = .ok (.iload_n 0, 1) := by decide +kernel
theorem dX11_least_21 : decode cX11_least 21 = .ok (.bipush 6, 2) := by decide +kernel
theorem dX11_least_23 : decode cX11_least 23 = .ok (.if_icmp .ge 8, 3) := by decide +kernel
theorem dX11_least_26 : decode cX11_least 26 = .ok (.bipush (-8), 2) := by decide +kernel
theorem dX11_least_28 : decode cX11_least 28 = .ok (.goto 5, 3) := by decide +kernel
theorem dX11_least_31 : decode cX11_least 31 = .ok (.bipush (-4), 2) := by decide +kernel
theorem dX11_least_33 : decode cX11_least 33 = .ok (.ireturn, 1) := by decide +kernel
theorem dX11_tableC_0 : decode cX11_tableC 0 = .ok (.iload_n 0, 1) := by decide +kernel
theorem dX11_tableC_1 : decode cX11_tableC 1 = .ok (.iconst 4, 1) := by decide +kernel
theorem dX11_tableC_2 : decode cX11_tableC 2 = .ok (.if_icmp .ge 9, 3) := by decide +kernel
theorem dX11_tableC_5 : decode cX11_tableC 5 = .ok (.sipush 13107, 3) := by decide +kernel
theorem dX11_tableC_8 : decode cX11_tableC 8 = .ok (.goto 40, 3) := by decide +kernel
theorem dX11_tableC_11 : decode cX11_tableC 11 = .ok (.iload_n 0, 1) := by decide +kernel
theorem dX11_tableC_12 : decode cX11_tableC 12 = .ok (.iconst 4, 1) := by decide +kernel
theorem dX11_tableC_13 : decode cX11_tableC 13 = .ok (.if_icmp .ne 9, 3) := by decide +kernel
theorem dX11_tableC_16 : decode cX11_tableC 16 = .ok (.sipush 19223, 3) := by decide +kernel
theorem dX11_tableC_19 : decode cX11_tableC 19 = .ok (.goto 29, 3) := by decide +kernel
theorem dX11_tableC_22 : decode cX11_tableC 22 = .ok (.iload_n 0, 1) := by decide +kernel
theorem dX11_tableC_23 : decode cX11_tableC 23 = .ok (.iconst 5, 1) := by decide +kernel
theorem dX11_tableC_24 : decode cX11_tableC 24 = .ok (.if_icmp .ne 9, 3) := by decide +kernel
theorem dX11_tableC_27 : decode cX11_tableC 27 = .ok (.sipush 17476, 3) := by decide +kernel
theorem dX11_tableC_30 : decode cX11_tableC 30 = .ok (.goto 18, 3) := by decide +kernel
theorem dX11_tableC_33 : decode cX11_tableC 33 = .ok (.iload_n 0, 1) := by decide +kernel
theorem dX11_tableC_34 : decode cX11_tableC 34 = .ok (.bipush 6, 2) := by decide +kernel
theorem dX11_tableC_36 : decode cX11_tableC 36 = .ok (.if_icmp .ne 9, 3) := by decide +kernel
theorem dX11_tableC_39 : decode cX11_tableC 39 = .ok (.sipush 31454, 3) := by decide +kernel
theorem dX11_tableC_42 : decode cX11_tableC 42 = .ok (.goto 6, 3) := by decide +kernel
theorem dX11_tableC_45 : decode cX11_tableC 45 = .ok (.sipush 29708, 3) := by decide +kernel
theorem dX11_tableC_48 : decode cX11_tableC 48 = .ok (.ireturn, 1) := by decide +kernel
theorem dX11_tableD_0 : decode cX11_tableD 0 = .ok (.iload_n 0, 1) := by decide +kernel
theorem dX11_tableD_1 : decode cX11_tableD 1 = .ok (.ifCond .ne 9, 3) := by decide +kernel
theorem dX11_tableD_4 : decode cX11_tableD 4 = .ok (.sipush 6554, 3) := by decide +kernel
theorem dX11_tableD_7 : decode cX11_tableD 7 = .ok (.goto 17, 3) := by decide +kernel
theorem dX11_tableD_10 : decode cX11_tableD 10 = .ok (.iload_n 0, 1) := by decide +kernel
theorem dX11_tableD_11 : decode cX11_tableD 11 = .ok (.iconst 1, 1) := by decide +kernel
theorem dX11_tableD_12 : decode cX11_tableD 12 = .ok (.if_icmp .ne 9, 3) := by decide +kernel
theorem dX11_tableD_15 : decode cX11_tableD 15 = .ok (.sipush 16384, 3) := by decide +kernel
theorem dX11_tableD_18 : decode cX11_tableD 18 = .ok (.goto 6, 3) := by decide +kernel
theorem dX11_tableD_21 : decode cX11_tableD 21 = .ok (.sipush 26214, 3) := by decide +kernel
theorem dX11_tableD_24 : decode cX11_tableD 24 = .ok (.ireturn, 1) := by decide +kernel
theorem dX11_tableG_0 : decode cX11_tableG 0 = .ok (.iload_n 0, 1) := by decide +kernel
theorem dX11_tableG_1 : decode cX11_tableG 1 = .ok (.ifCond .ne 9, 3) := by decide +kernel
theorem dX11_tableG_4 : decode cX11_tableG 4 = .ok (.sipush 3277, 3) := by decide +kernel
theorem dX11_tableG_7 : decode cX11_tableG 7 = .ok (.goto 28, 3) := by decide +kernel
theorem dX11_tableG_10 : decode cX11_tableG 10 = .ok (.iload_n 0, 1) := by decide +kernel
theorem dX11_tableG_11 : decode cX11_tableG 11 = .ok (.iconst 1, 1) := by decide +kernel
theorem dX11_tableG_12 : decode cX11_tableG 12 = .ok (.if_icmp .ne 9, 3) := by decide +kernel
theorem dX11_tableG_15 : decode cX11_tableG 15 = .ok (.sipush 11469, 3) := by decide +kernel
theorem dX11_tableG_18 : decode cX11_tableG 18 = .ok (.goto 17, 3) := by decide +kernel
theorem dX11_tableG_21 : decode cX11_tableG 21 = .ok (.iload_n 0, 1) := by decide +kernel
theorem dX11_tableG_22 : decode cX11_tableG 22 = .ok (.iconst 2, 1) := by decide +kernel
theorem dX11_tableG_23 : decode cX11_tableG 23 = .ok (.if_icmp .ne 9, 3) := by decide +kernel
theorem dX11_tableG_26 : decode cX11_tableG 26 = .ok (.sipush 21299, 3) := by decide +kernel
theorem dX11_tableG_29 : decode cX11_tableG 29 = .ok (.goto 6, 3) := by decide +kernel
theorem dX11_tableG_32 : decode cX11_tableG 32 = .ok (.sipush 32767, 3) := by decide +kernel
theorem dX11_tableG_35 : decode cX11_tableG 35 = .ok (.ireturn, 1) := by decide +kernel
theorem dX11_tableH_0 : decode cX11_tableH 0 = .ok (.iload_n 0, 1) := by decide +kernel
theorem dX11_tableH_1 : decode cX11_tableH 1 = .ok (.iconst 5, 1) := by decide +kernel
theorem dX11_tableH_2 : decode cX11_tableH 2 = .ok (.if_icmp .le 9, 3) := by decide +kernel
theorem dX11_tableH_5 : decode cX11_tableH 5 = .ok (.iload_n 0, 1) := by decide +kernel
theorem dX11_tableH_6 : decode cX11_tableH 6 = .ok (.iconst 5, 1) := by decide +kernel
theorem dX11_tableH_7 : decode cX11_tableH 7 = .ok (.isub, 1) := by decide +kernel
theorem dX11_tableH_8 : decode cX11_tableH 8 = .ok (.goto 6, 3) := by decide +kernel
theorem dX11_tableH_11 : decode cX11_tableH 11 = .ok (.iconst 5, 1) := by decide +kernel
theorem dX11_tableH_12 : decode cX11_tableH 12 = .ok (.iload_n 0, 1) := by decide +kernel
theorem dX11_tableH_13 : decode cX11_tableH 13 = .ok (.isub, 1) := by decide +kernel
theorem dX11_tableH_14 : decode cX11_tableH 14 = .ok (.istore_n 1, 1) := by decide +kernel
theorem dX11_tableH_15 : decode cX11_tableH 15 = .ok (.iload_n 1, 1) := by decide +kernel
theorem dX11_tableH_16 : decode cX11_tableH 16 = .ok (.ifCond .ne 9, 3) := by decide +kernel
theorem dX11_tableH_19 : decode cX11_tableH 19 = .ok (.sipush 8192, 3) := by decide +kernel
theorem dX11_tableH_22 : decode cX11_tableH 22 = .ok (.goto 48, 3) := by decide +kernel
theorem dX11_tableH_25 : decode cX11_tableH 25 = .ok (.iload_n 1, 1) := by decide +kernel
theorem dX11_tableH_26 : decode cX11_tableH 26 = .ok (.iconst 1, 1) := by decide +kernel
theorem dX11_tableH_27 : decode cX11_tableH 27 = .ok (.if_icmp .ne 9, 3) := by decide +kernel
theorem dX11_tableH_30 : decode cX11_tableH 30 = .ok (.sipush 5741, 3) := by decide +kernel
theorem dX11_tableH_33 : decode cX11_tableH 33 = .ok (.goto 37, 3) := by decide +kernel
theorem dX11_tableH_36 : decode cX11_tableH 36 = .ok (.iload_n 1, 1) := by decide +kernel
theorem dX11_tableH_37 : decode cX11_tableH 37 = .ok (.iconst 2, 1) := by decide +kernel
theorem dX11_tableH_38 : decode cX11_tableH 38 = .ok (.if_icmp .ne 9, 3) := by decide +kernel
theorem dX11_tableH_41 : decode cX11_tableH 41 = .ok (.sipush 2054, 3) := by decide +kernel
theorem dX11_tableH_44 : decode cX11_tableH 44 = .ok (.goto 26, 3) := by decide +kernel
theorem dX11_tableH_47 : decode cX11_tableH 47 = .ok (.iload_n 1, 1) := by decide +kernel
theorem dX11_tableH_48 : decode cX11_tableH 48 = .ok (.iconst 3, 1) := by decide +kernel
theorem dX11_tableH_49 : decode cX11_tableH 49 = .ok (.if_icmp .ne 7, 3) := by decide +kernel
theorem dX11_tableH_52 : decode cX11_tableH 52 = .ok (.iconst 0, 1) := by decide +kernel
theorem dX11_tableH_53 : decode cX11_tableH 53 = .ok (.goto 17, 3) := by decide +kernel
theorem dX11_tableH_56 : decode cX11_tableH 56 = .ok (.iload_n 1, 1) := by decide +kernel
theorem dX11_tableH_57 : decode cX11_tableH 57 = .ok (.iconst 4, 1) := by decide +kernel
theorem dX11_tableH_58 : decode cX11_tableH 58 = .ok (.if_icmp .ne 9, 3) := by decide +kernel
theorem dX11_tableH_61 : decode cX11_tableH 61 = .ok (.sipush (-374), 3) := by decide +kernel
theorem dX11_tableH_64 : decode cX11_tableH 64 = .ok (.goto 6, 3) := by decide +kernel
theorem dX11_tableH_67 : decode cX11_tableH 67 = .ok (.sipush (-134), 3) := by decide +kernel
theorem dX11_tableH_70 : decode cX11_tableH 70 = .ok (.ireturn, 1) := by decide +kernel
theorem dX11_tableR_0 : decode cX11_tableR 0 = .ok (.iload_n 0, 1) := by decide +kernel
theorem dX11_tableR_1 : decode cX11_tableR 1 = .ok (.tableswitch 71 0 6 #[43, 47, 51, 55, 59, 63, 67], 43) := by decide +kernel
theorem dX11_tableR_44 : decode cX11_tableR 44 = .ok (.sipush 29128, 3) := by decide +kernel
theorem dX11_tableR_47 : decode cX11_tableR 47 = .ok (.ireturn, 1) := by decide +kernel
theorem dX11_tableR_48 : decode cX11_tableR 48 = .ok (.sipush 26215, 3) := by decide +kernel
theorem dX11_tableR_51 : decode cX11_tableR 51 = .ok (.ireturn, 1) := by decide +kernel
theorem dX11_tableR_52 : decode cX11_tableR 52 = .ok (.sipush 23832, 3) := by decide +kernel
theorem dX11_tableR_55 : decode cX11_tableR 55 = .ok (.ireturn, 1) := by decide +kernel
theorem dX11_tableR_56 : decode cX11_tableR 56 = .ok (.sipush 21846, 3) := by decide +kernel
theorem dX11_tableR_59 : decode cX11_tableR 59 = .ok (.ireturn, 1) := by decide +kernel
theorem dX11_tableR_60 : decode cX11_tableR 60 = .ok (.sipush 20165, 3) := by decide +kernel
theorem dX11_tableR_63 : decode cX11_tableR 63 = .ok (.ireturn, 1) := by decide +kernel
theorem dX11_tableR_64 : decode cX11_tableR 64 = .ok (.sipush 18725, 3) := by decide +kernel
theorem dX11_tableR_67 : decode cX11_tableR 67 = .ok (.ireturn, 1) := by decide +kernel
theorem dX11_tableR_68 : decode cX11_tableR 68 = .ok (.sipush 17476, 3) := by decide +kernel
theorem dX11_tableR_71 : decode cX11_tableR 71 = .ok (.ireturn, 1) := by decide +kernel
theorem dX11_tableR_72 : decode cX11_tableR 72 = .ok (.sipush 16384, 3) := by decide +kernel
theorem dX11_tableR_75 : decode cX11_tableR 75 = .ok (.ireturn, 1) := by decide +kernel
theorem dX11_tableF_0 : decode cX11_tableF 0 = .ok (.iload_n 0, 1) := by decide +kernel
theorem dX11_tableF_1 : decode cX11_tableF 1 = .ok (.bipush 7, 2) := by decide +kernel
theorem dX11_tableF_3 : decode cX11_tableF 3 = .ok (.if_icmp .ne 9, 3) := by decide +kernel
theorem dX11_tableF_6 : decode cX11_tableF 6 = .ok (.sipush 32767, 3) := by decide +kernel
theorem dX11_tableF_9 : decode cX11_tableF 9 = .ok (.goto 12, 3) := by decide +kernel
theorem dX11_tableF_12 : decode cX11_tableF 12 = .ok (.sipush 18431, 3) := by decide +kernel
theorem dX11_tableF_15 : decode cX11_tableF 15 = .ok (.sipush 2048, 3) := by decide +kernel
theorem dX11_tableF_18 : decode cX11_tableF 18 = .ok (.iload_n 0, 1) := by decide +kernel
theorem dX11_tableF_19 : decode cX11_tableF 19 = .ok (.imul, 1) := by decide +kernel
theorem dX11_tableF_20 : decode cX11_tableF 20 = .ok (.iadd, 1) := by decide +kernel
theorem dX11_tableF_21 : decode cX11_tableF 21 = .ok (.ireturn, 1) := by decide +kernel
theorem dX11_put_0 : decode cX11_put 0 = .ok (.aload_n 0, 1) := by decide +kernel
theorem dX11_put_1 : decode cX11_put 1 = .ok (.iload_n 1, 1) := by decide +kernel
theorem dX11_put_2 : decode cX11_put 2 = .ok (.sipush (-32768), 3) := by decide +kernel
theorem dX11_put_5 : decode cX11_put 5 = .ok (.if_icmp .lt 10, 3) := by decide +kernel
theorem dX11_put_8 : decode cX11_put 8 = .ok (.iload_n 1, 1) := by decide +kernel
theorem dX11_put_9 : decode cX11_put 9 = .ok (.sipush 32767, 3) := by decide +kernel
theorem dX11_put_12 : decode cX11_put 12 = .ok (.if_icmp .le 7, 3) := by decide +kernel
theorem dX11_put_15 : decode cX11_put 15 = .ok (.iconst 1, 1) := by decide +kernel
theorem dX11_put_16 : decode cX11_put 16 = .ok (.goto 18, 3) := by decide +kernel
theorem dX11_put_19 : decode cX11_put 19 = .ok (.aload_n 0, 1) := by decide +kernel
theorem dX11_put_20 : decode cX11_put 20 = .ok (.getfield 88, 3) := by decide +kernel
theorem dX11_put_23 : decode cX11_put 23 = .ok (.sipush 160, 3) := by decide +kernel
theorem dX11_put_26 : decode cX11_put 26 = .ok (.if_icmp .ne 7, 3) := by decide +kernel
theorem dX11_put_29 : decode cX11_put 29 = .ok (.iconst 2, 1) := by decide +kernel
theorem dX11_put_30 : decode cX11_put 30 = .ok (.goto 4, 3) := by decide +kernel
theorem dX11_put_33 : decode cX11_put 33 = .ok (.iconst 0, 1) := by decide +kernel
theorem dX11_put_34 : decode cX11_put 34 = .ok (.invokevirtual 91, 3) := by decide +kernel
theorem dX11_put_37 : decode cX11_put 37 = .ok (.ifCond .eq 5, 3) := by decide +kernel
theorem dX11_put_40 : decode cX11_put 40 = .ok (.iconst 0, 1) := by decide +kernel
theorem dX11_put_41 : decode cX11_put 41 = .ok (.ireturn, 1) := by decide +kernel
theorem dX11_put_42 : decode cX11_put 42 = .ok (.aload_n 0, 1) := by decide +kernel
theorem dX11_put_43 : decode cX11_put 43 = .ok (.getfield 7, 3) := by decide +kernel
theorem dX11_put_46 : decode cX11_put 46 = .ok (.aload_n 0, 1) := by decide +kernel
theorem dX11_put_47 : decode cX11_put 47 = .ok (.getfield 88, 3) := by decide +kernel
theorem dX11_put_50 : decode cX11_put 50 = .ok (.iload_n 1, 1) := by decide +kernel
theorem dX11_put_51 : decode cX11_put 51 = .ok (.i2l, 1) := by decide +kernel
theorem dX11_put_52 : decode cX11_put 52 = .ok (.lastore, 1) := by decide +kernel
theorem dX11_put_53 : decode cX11_put 53 = .ok (.aload_n 0, 1) := by decide +kernel
theorem dX11_put_54 : decode cX11_put 54 = .ok (.dup, 1) := by decide +kernel
theorem dX11_put_55 : decode cX11_put 55 = .ok (.getfield 88, 3) := by decide +kernel
theorem dX11_put_58 : decode cX11_put 58 = .ok (.iconst 1, 1) := by decide +kernel
theorem dX11_put_59 : decode cX11_put 59 = .ok (.iadd, 1) := by decide +kernel
theorem dX11_put_60 : decode cX11_put 60 = .ok (.putfield 88, 3) := by decide +kernel
theorem dX11_put_63 : decode cX11_put 63 = .ok (.aload_n 0, 1) := by decide +kernel
theorem dX11_put_64 : decode cX11_put 64 = .ok (.getfield 88, 3) := by decide +kernel
theorem dX11_put_67 : decode cX11_put 67 = .ok (.ireturn, 1) := by decide +kernel
theorem dX11_fill_0 : decode cX11_fill 0 = .ok (.aload_n 0, 1) := by decide +kernel
theorem dX11_fill_1 : decode cX11_fill 1 = .ok (.iload_n 3, 1) := by decide +kernel
theorem dX11_fill_2 : decode cX11_fill 2 = .ok (.ifCond .lt 10, 3) := by decide +kernel
theorem dX11_fill_5 : decode cX11_fill 5 = .ok (.iload_n 3, 1) := by decide +kernel
theorem dX11_fill_6 : decode cX11_fill 6 = .ok (.sipush 160, 3) := by decide +kernel
theorem dX11_fill_9 : decode cX11_fill 9 = .ok (.if_icmp .le 7, 3) := by decide +kernel
theorem dX11_fill_12 : decode cX11_fill 12 = .ok (.iconst 1, 1) := by decide +kernel
theorem dX11_fill_13 : decode cX11_fill 13 = .ok (.goto 20, 3) := by decide +kernel
theorem dX11_fill_16 : decode cX11_fill 16 = .ok (.aload_n 0, 1) := by decide +kernel
theorem dX11_fill_17 : decode cX11_fill 17 = .ok (.getfield 88, 3) := by decide +kernel
theorem dX11_fill_20 : decode cX11_fill 20 = .ok (.iload_n 3, 1) := by decide +kernel
theorem dX11_fill_21 : decode cX11_fill 21 = .ok (.iadd, 1) := by decide +kernel
theorem dX11_fill_22 : decode cX11_fill 22 = .ok (.sipush 160, 3) := by decide +kernel
theorem dX11_fill_25 : decode cX11_fill 25 = .ok (.if_icmp .le 7, 3) := by decide +kernel
theorem dX11_fill_28 : decode cX11_fill 28 = .ok (.iconst 2, 1) := by decide +kernel
theorem dX11_fill_29 : decode cX11_fill 29 = .ok (.goto 4, 3) := by decide +kernel
theorem dX11_fill_32 : decode cX11_fill 32 = .ok (.iconst 0, 1) := by decide +kernel
theorem dX11_fill_33 : decode cX11_fill 33 = .ok (.invokevirtual 91, 3) := by decide +kernel
theorem dX11_fill_36 : decode cX11_fill 36 = .ok (.ifCond .eq 5, 3) := by decide +kernel
theorem dX11_fill_39 : decode cX11_fill 39 = .ok (.iconst 0, 1) := by decide +kernel
theorem dX11_fill_40 : decode cX11_fill 40 = .ok (.ireturn, 1) := by decide +kernel
theorem dX11_fill_41 : decode cX11_fill 41 = .ok (.iload_n 1, 1) := by decide +kernel
theorem dX11_fill_42 : decode cX11_fill 42 = .ok (.i2l, 1) := by decide +kernel
theorem dX11_fill_43 : decode cX11_fill 43 = .ok (.lstore 4, 2) := by decide +kernel
theorem dX11_fill_45 : decode cX11_fill 45 = .ok (.iconst 0, 1) := by decide +kernel
theorem dX11_fill_46 : decode cX11_fill 46 = .ok (.istore 6, 2) := by decide +kernel
theorem dX11_fill_48 : decode cX11_fill 48 = .ok (.iload 6, 2) := by decide +kernel
theorem dX11_fill_50 : decode cX11_fill 50 = .ok (.iload_n 3, 1) := by decide +kernel
theorem dX11_fill_51 : decode cX11_fill 51 = .ok (.if_icmp .ge 63, 3) := by decide +kernel
theorem dX11_fill_54 : decode cX11_fill 54 = .ok (.lload 4, 2) := by decide +kernel
theorem dX11_fill_56 : decode cX11_fill 56 = .ok (.ldc2_w 95, 3) := by decide +kernel
theorem dX11_fill_59 : decode cX11_fill 59 = .ok (.land, 1) := by decide +kernel
theorem dX11_fill_60 : decode cX11_fill 60 = .ok (.lstore 7, 2) := by decide +kernel
theorem dX11_fill_62 : decode cX11_fill 62 = .ok (.aload_n 0, 1) := by decide +kernel
theorem dX11_fill_63 : decode cX11_fill 63 = .ok (.getfield 7, 3) := by decide +kernel
theorem dX11_fill_66 : decode cX11_fill 66 = .ok (.aload_n 0, 1) := by decide +kernel
theorem dX11_fill_67 : decode cX11_fill 67 = .ok (.getfield 88, 3) := by decide +kernel
theorem dX11_fill_70 : decode cX11_fill 70 = .ok (.lload 7, 2) := by decide +kernel
theorem dX11_fill_72 : decode cX11_fill 72 = .ok (.ldc2_w 72, 3) := by decide +kernel
theorem dX11_fill_75 : decode cX11_fill 75 = .ok (.lcmp, 1) := by decide +kernel
theorem dX11_fill_76 : decode cX11_fill 76 = .ok (.ifCond .le 12, 3) := by decide +kernel
theorem dX11_fill_79 : decode cX11_fill 79 = .ok (.lload 7, 2) := by decide +kernel
theorem dX11_fill_81 : decode cX11_fill 81 = .ok (.ldc2_w 97, 3) := by decide +kernel
theorem dX11_fill_84 : decode cX11_fill 84 = .ok (.lsub, 1) := by decide +kernel
theorem dX11_fill_85 : decode cX11_fill 85 = .ok (.goto 5, 3) := by decide +kernel
theorem dX11_fill_88 : decode cX11_fill 88 = .ok (.lload 7, 2) := by decide +kernel
theorem dX11_fill_90 : decode cX11_fill 90 = .ok (.lastore, 1) := by decide +kernel
theorem dX11_fill_91 : decode cX11_fill 91 = .ok (.aload_n 0, 1) := by decide +kernel
theorem dX11_fill_92 : decode cX11_fill 92 = .ok (.dup, 1) := by decide +kernel
theorem dX11_fill_93 : decode cX11_fill 93 = .ok (.getfield 88, 3) := by decide +kernel
theorem dX11_fill_96 : decode cX11_fill 96 = .ok (.iconst 1, 1) := by decide +kernel
theorem dX11_fill_97 : decode cX11_fill 97 = .ok (.iadd, 1) := by decide +kernel
theorem dX11_fill_98 : decode cX11_fill 98 = .ok (.putfield 88, 3) := by decide +kernel
theorem dX11_fill_101 : decode cX11_fill 101 = .ok (.lload 4, 2) := by decide +kernel
theorem dX11_fill_103 : decode cX11_fill 103 = .ok (.iload_n 2, 1) := by decide +kernel
theorem dX11_fill_104 : decode cX11_fill 104 = .ok (.i2l, 1) := by decide +kernel
theorem dX11_fill_105 : decode cX11_fill 105 = .ok (.ladd, 1) := by decide +kernel
theorem dX11_fill_106 : decode cX11_fill 106 = .ok (.lstore 4, 2) := by decide +kernel
theorem dX11_fill_108 : decode cX11_fill 108 = .ok (.iinc 6 1, 3) := by decide +kernel
theorem dX11_fill_111 : decode cX11_fill 111 = .ok (.goto (-63), 3) := by decide +kernel
theorem dX11_fill_114 : decode cX11_fill 114 = .ok (.aload_n 0, 1) := by decide +kernel
theorem dX11_fill_115 : decode cX11_fill 115 = .ok (.getfield 88, 3) := by decide +kernel
theorem dX11_fill_118 : decode cX11_fill 118 = .ok (.ireturn, 1) := by decide +kernel
theorem dX11_prepares_0 : decode cX11_prepares 0 = .ok (.iconst 0, 1) := by decide +kernel
theorem dX11_prepares_1 : decode cX11_prepares 1 = .ok (.istore_n 1, 1) := by decide +kernel
theorem dX11_prepares_2 : decode cX11_prepares 2 = .ok (.iload_n 1, 1) := by decide +kernel
theorem dX11_prepares_3 : decode cX11_prepares 3 = .ok (.sipush 160, 3) := by decide +kernel
theorem dX11_prepares_6 : decode cX11_prepares 6 = .ok (.if_icmp .ge 133, 3) := by decide +kernel
theorem dX11_prepares_9 : decode cX11_prepares 9 = .ok (.aload_n 0, 1) := by decide +kernel
theorem dX11_prepares_10 : decode cX11_prepares 10 = .ok (.getfield 7, 3) := by decide +kernel
theorem dX11_prepares_13 : decode cX11_prepares 13 = .ok (.iload_n 1, 1) := by decide +kernel
theorem dX11_prepares_14 : decode cX11_prepares 14 = .ok (.laload, 1) := by decide +kernel
theorem dX11_prepares_15 : decode cX11_prepares 15 = .ok (.iconst 3, 1) := by decide +kernel
theorem dX11_prepares_16 : decode cX11_prepares 16 = .ok (.lshr, 1) := by decide +kernel
theorem dX11_prepares_17 : decode cX11_prepares 17 = .ok (.ldc2_w 99, 3) := by decide +kernel
theorem dX11_prepares_20 : decode cX11_prepares 20 = .ok (.lmul, 1) := by decide +kernel
theorem dX11_prepares_21 : decode cX11_prepares 21 = .ok (.lstore_n 2, 1) := by decide +kernel
theorem dX11_prepares_22 : decode cX11_prepares 22 = .ok (.lload_n 2, 1) := by decide +kernel
theorem dX11_prepares_23 : decode cX11_prepares 23 = .ok (.aload_n 0, 1) := by decide +kernel
theorem dX11_prepares_24 : decode cX11_prepares 24 = .ok (.getfield 101, 3) := by decide +kernel
theorem dX11_prepares_27 : decode cX11_prepares 27 = .ok (.lsub, 1) := by decide +kernel
theorem dX11_prepares_28 : decode cX11_prepares 28 = .ok (.ldc2_w 105, 3) := by decide +kernel
theorem dX11_prepares_31 : decode cX11_prepares 31 = .ok (.lmul, 1) := by decide +kernel
theorem dX11_prepares_32 : decode cX11_prepares 32 = .ok (.lstore 4, 2) := by decide +kernel
theorem dX11_prepares_34 : decode cX11_prepares 34 = .ok (.aload_n 0, 1) := by decide +kernel
theorem dX11_prepares_35 : decode cX11_prepares 35 = .ok (.lload_n 2, 1) := by decide +kernel
theorem dX11_prepares_36 : decode cX11_prepares 36 = .ok (.putfield 101, 3) := by decide +kernel
theorem dX11_prepares_39 : decode cX11_prepares 39 = .ok (.aload_n 0, 1) := by decide +kernel
theorem dX11_prepares_40 : decode cX11_prepares 40 = .ok (.getfield 107, 3) := by decide +kernel
theorem dX11_prepares_43 : decode cX11_prepares 43 = .ok (.bipush 15, 2) := by decide +kernel
theorem dX11_prepares_45 : decode cX11_prepares 45 = .ok (.lshr, 1) := by decide +kernel
theorem dX11_prepares_46 : decode cX11_prepares 46 = .ok (.lstore 6, 2) := by decide +kernel
theorem dX11_prepares_48 : decode cX11_prepares 48 = .ok (.aload_n 0, 1) := by decide +kernel
theorem dX11_prepares_49 : decode cX11_prepares 49 = .ok (.getfield 107, 3) := by decide +kernel
theorem dX11_prepares_52 : decode cX11_prepares 52 = .ok (.lload 6, 2) := by decide +kernel
theorem dX11_prepares_54 : decode cX11_prepares 54 = .ok (.ldc2_w 105, 3) := by decide +kernel
theorem dX11_prepares_57 : decode cX11_prepares 57 = .ok (.lmul, 1) := by decide +kernel
theorem dX11_prepares_58 : decode cX11_prepares 58 = .ok (.lsub, 1) := by decide +kernel
theorem dX11_prepares_59 : decode cX11_prepares 59 = .ok (.lstore 8, 2) := by decide +kernel
theorem dX11_prepares_61 : decode cX11_prepares 61 = .ok (.aload_n 0, 1) := by decide +kernel
theorem dX11_prepares_62 : decode cX11_prepares 62 = .ok (.lload 6, 2) := by decide +kernel
theorem dX11_prepares_64 : decode cX11_prepares 64 = .ok (.ldc2_w 110, 3) := by decide +kernel
theorem dX11_prepares_67 : decode cX11_prepares 67 = .ok (.lmul, 1) := by decide +kernel
theorem dX11_prepares_68 : decode cX11_prepares 68 = .ok (.lload 4, 2) := by decide +kernel
theorem dX11_prepares_70 : decode cX11_prepares 70 = .ok (.ladd, 1) := by decide +kernel
theorem dX11_prepares_71 : decode cX11_prepares 71 = .ok (.lload 8, 2) := by decide +kernel
theorem dX11_prepares_73 : decode cX11_prepares 73 = .ok (.ldc2_w 110, 3) := by decide +kernel
theorem dX11_prepares_76 : decode cX11_prepares 76 = .ok (.invokestatic 112, 3) := by decide +kernel
theorem dX11_prepares_79 : decode cX11_prepares 79 = .ok (.ladd, 1) := by decide +kernel
theorem dX11_prepares_80 : decode cX11_prepares 80 = .ok (.invokestatic 116, 3) := by decide +kernel
theorem dX11_prepares_83 : decode cX11_prepares 83 = .ok (.putfield 107, 3) := by decide +kernel
theorem dX11_prepares_86 : decode cX11_prepares 86 = .ok (.aload_n 0, 1) := by decide +kernel
theorem dX11_prepares_87 : decode cX11_prepares 87 = .ok (.getfield 107, 3) := by decide +kernel
theorem dX11_prepares_90 : decode cX11_prepares 90 = .ok (.ldc2_w 80, 3) := by decide +kernel
theorem dX11_prepares_93 : decode cX11_prepares 93 = .ok (.ladd, 1) := by decide +kernel
theorem dX11_prepares_94 : decode cX11_prepares 94 = .ok (.invokestatic 116, 3) := by decide +kernel
theorem dX11_prepares_97 : decode cX11_prepares 97 = .ok (.bipush 15, 2) := by decide +kernel
theorem dX11_prepares_99 : decode cX11_prepares 99 = .ok (.lshr, 1) := by decide +kernel
theorem dX11_prepares_100 : decode cX11_prepares 100 = .ok (.invokestatic 82, 3) := by decide +kernel
theorem dX11_prepares_103 : decode cX11_prepares 103 = .ok (.lstore 10, 2) := by decide +kernel
theorem dX11_prepares_105 : decode cX11_prepares 105 = .ok (.aload_n 0, 1) := by decide +kernel
theorem dX11_prepares_106 : decode cX11_prepares 106 = .ok (.getfield 39, 3) := by decide +kernel
theorem dX11_prepares_109 : decode cX11_prepares 109 = .ok (.iload_n 1, 1) := by decide +kernel
theorem dX11_prepares_110 : decode cX11_prepares 110 = .ok (.lload 10, 2) := by decide +kernel
theorem dX11_prepares_112 : decode cX11_prepares 112 = .ok (.aload_n 0, 1) := by decide +kernel
theorem dX11_prepares_113 : decode cX11_prepares 113 = .ok (.getfield 119, 3) := by decide +kernel
theorem dX11_prepares_116 : decode cX11_prepares 116 = .ok (.ldc2_w 122, 3) := by decide +kernel
theorem dX11_prepares_119 : decode cX11_prepares 119 = .ok (.invokestatic 112, 3) := by decide +kernel
theorem dX11_prepares_122 : decode cX11_prepares 122 = .ok (.ladd, 1) := by decide +kernel
theorem dX11_prepares_123 : decode cX11_prepares 123 = .ok (.invokestatic 82, 3) := by decide +kernel
theorem dX11_prepares_126 : decode cX11_prepares 126 = .ok (.lastore, 1) := by decide +kernel
theorem dX11_prepares_127 : decode cX11_prepares 127 = .ok (.aload_n 0, 1) := by decide +kernel
theorem dX11_prepares_128 : decode cX11_prepares 128 = .ok (.lload 10, 2) := by decide +kernel
theorem dX11_prepares_130 : decode cX11_prepares 130 = .ok (.putfield 119, 3) := by decide +kernel
theorem dX11_prepares_133 : decode cX11_prepares 133 = .ok (.iinc 1 1, 3) := by decide +kernel
theorem dX11_prepares_136 : decode cX11_prepares 136 = .ok (.goto (-134), 3) := by decide +kernel
theorem dX11_prepares_139 : decode cX11_prepares 139 = .ok (.return_, 1) := by decide +kernel
theorem dX11_greatest_0 : decode cX11_greatest 0 = .ok (.lconst 0, 1) := by decide +kernel
theorem dX11_greatest_1 : decode cX11_greatest 1 = .ok (.lstore_n 3, 1) := by decide +kernel
theorem dX11_greatest_2 : decode cX11_greatest 2 = .ok (.iload_n 1, 1) := by decide +kernel
theorem dX11_greatest_3 : decode cX11_greatest 3 = .ok (.istore 5, 2) := by decide +kernel
theorem dX11_greatest_5 : decode cX11_greatest 5 = .ok (.iload 5, 2) := by decide +kernel
theorem dX11_greatest_7 : decode cX11_greatest 7 = .ok (.iload_n 1, 1) := by decide +kernel
theorem dX11_greatest_8 : decode cX11_greatest 8 = .ok (.iload_n 2, 1) := by decide +kernel
theorem dX11_greatest_9 : decode cX11_greatest 9 = .ok (.iadd, 1) := by decide +kernel
theorem dX11_greatest_10 : decode cX11_greatest 10 = .ok (.if_icmp .ge 33, 3) := by decide +kernel
theorem dX11_greatest_13 : decode cX11_greatest 13 = .ok (.aload_n 0, 1) := by decide +kernel
theorem dX11_greatest_14 : decode cX11_greatest 14 = .ok (.iload 5, 2) := by decide +kernel
theorem dX11_greatest_16 : decode cX11_greatest 16 = .ok (.laload, 1) := by decide +kernel
theorem dX11_greatest_17 : decode cX11_greatest 17 = .ok (.invokestatic 124, 3) := by decide +kernel
theorem dX11_greatest_20 : decode cX11_greatest 20 = .ok (.lload_n 3, 1) := by decide +kernel
theorem dX11_greatest_21 : decode cX11_greatest 21 = .ok (.lcmp, 1) := by decide +kernel
theorem dX11_greatest_22 : decode cX11_greatest 22 = .ok (.ifCond .le 13, 3) := by decide +kernel
theorem dX11_greatest_25 : decode cX11_greatest 25 = .ok (.aload_n 0, 1) := by decide +kernel
theorem dX11_greatest_26 : decode cX11_greatest 26 = .ok (.iload 5, 2) := by decide +kernel
theorem dX11_greatest_28 : decode cX11_greatest 28 = .ok (.laload, 1) := by decide +kernel
theorem dX11_greatest_29 : decode cX11_greatest 29 = .ok (.invokestatic 124, 3) := by decide +kernel
theorem dX11_greatest_32 : decode cX11_greatest 32 = .ok (.goto 4, 3) := by decide +kernel
theorem dX11_greatest_35 : decode cX11_greatest 35 = .ok (.lload_n 3, 1) := by decide +kernel
theorem dX11_greatest_36 : decode cX11_greatest 36 = .ok (.lstore_n 3, 1) := by decide +kernel
theorem dX11_greatest_37 : decode cX11_greatest 37 = .ok (.iinc 5 1, 3) := by decide +kernel
theorem dX11_greatest_40 : decode cX11_greatest 40 = .ok (.goto (-35), 3) := by decide +kernel
theorem dX11_greatest_43 : decode cX11_greatest 43 = .ok (.lload_n 3, 1) := by decide +kernel
theorem dX11_greatest_44 : decode cX11_greatest 44 = .ok (.lreturn, 1) := by decide +kernel
theorem dX11_correlates_0 : decode cX11_correlates 0 = .ok (.aload_n 0, 1) := by decide +kernel
theorem dX11_correlates_1 : decode cX11_correlates 1 = .ok (.getfield 39, 3) := by decide +kernel
theorem dX11_correlates_4 : decode cX11_correlates 4 = .ok (.iconst 0, 1) := by decide +kernel
theorem dX11_correlates_5 : decode cX11_correlates 5 = .ok (.sipush 160, 3) := by decide +kernel
theorem dX11_correlates_8 : decode cX11_correlates 8 = .ok (.invokestatic 127, 3) := by decide +kernel
theorem dX11_correlates_11 : decode cX11_correlates 11 = .ok (.lstore_n 1, 1) := by decide +kernel
theorem dX11_correlates_12 : decode cX11_correlates 12 = .ok (.lload_n 1, 1) := by decide +kernel
theorem dX11_correlates_13 : decode cX11_correlates 13 = .ok (.lconst 0, 1) := by decide +kernel
theorem dX11_correlates_14 : decode cX11_correlates 14 = .ok (.lcmp, 1) := by decide +kernel
theorem dX11_correlates_15 : decode cX11_correlates 15 = .ok (.ifCond .ne 7, 3) := by decide +kernel
theorem dX11_correlates_18 : decode cX11_correlates 18 = .ok (.iconst 0, 1) := by decide +kernel
theorem dX11_correlates_19 : decode cX11_correlates 19 = .ok (.goto 13, 3) := by decide +kernel
theorem dX11_correlates_22 : decode cX11_correlates 22 = .ok (.iconst 4, 1) := by decide +kernel
theorem dX11_correlates_23 : decode cX11_correlates 23 = .ok (.lload_n 1, 1) := by decide +kernel
theorem dX11_correlates_24 : decode cX11_correlates 24 = .ok (.ldc2_w 97, 3) := by decide +kernel
theorem dX11_correlates_27 : decode cX11_correlates 27 = .ok (.lmul, 1) := by decide +kernel
theorem dX11_correlates_28 : decode cX11_correlates 28 = .ok (.invokestatic 131, 3) := by decide +kernel
theorem dX11_correlates_31 : decode cX11_correlates 31 = .ok (.isub, 1) := by decide +kernel
theorem dX11_correlates_32 : decode cX11_correlates 32 = .ok (.istore_n 3, 1) := by decide +kernel
theorem dX11_correlates_33 : decode cX11_correlates 33 = .ok (.iload_n 3, 1) := by decide +kernel
theorem dX11_correlates_34 : decode cX11_correlates 34 = .ok (.ifCond .le 44, 3) := by decide +kernel
theorem dX11_correlates_37 : decode cX11_correlates 37 = .ok (.iconst 0, 1) := by decide +kernel
theorem dX11_correlates_38 : decode cX11_correlates 38 = .ok (.istore 4, 2) := by decide +kernel
theorem dX11_correlates_40 : decode cX11_correlates 40 = .ok (.iload 4, 2) := by decide +kernel
theorem dX11_correlates_42 : decode cX11_correlates 42 = .ok (.sipush 160, 3) := by decide +kernel
theorem dX11_correlates_45 : decode cX11_correlates 45 = .ok (.if_icmp .ge 33, 3) := by decide +kernel
theorem dX11_correlates_48 : decode cX11_correlates 48 = .ok (.aload_n 0, 1) := by decide +kernel
theorem dX11_correlates_49 : decode cX11_correlates 49 = .ok (.getfield 39, 3) := by decide +kernel
theorem dX11_correlates_52 : decode cX11_correlates 52 = .ok (.iload 4, 2) := by decide +kernel
theorem dX11_correlates_54 : decode cX11_correlates 54 = .ok (.aload_n 0, 1) := by decide +kernel
theorem dX11_correlates_55 : decode cX11_correlates 55 = .ok (.getfield 39, 3) := by decide +kernel
theorem dX11_correlates_58 : decode cX11_correlates 58 = .ok (.iload 4, 2) := by decide +kernel
theorem dX11_correlates_60 : decode cX11_correlates 60 = .ok (.laload, 1) := by decide +kernel
theorem dX11_correlates_61 : decode cX11_correlates 61 = .ok (.ldc2_w 80, 3) := by decide +kernel
theorem dX11_correlates_64 : decode cX11_correlates 64 = .ok (.iload_n 3, 1) := by decide +kernel
theorem dX11_correlates_65 : decode cX11_correlates 65 = .ok (.iconst 1, 1) := by decide +kernel
theorem dX11_correlates_66 : decode cX11_correlates 66 = .ok (.isub, 1) := by decide +kernel
theorem dX11_correlates_67 : decode cX11_correlates 67 = .ok (.lshr, 1) := by decide +kernel
theorem dX11_correlates_68 : decode cX11_correlates 68 = .ok (.invokestatic 112, 3) := by decide +kernel
theorem dX11_correlates_71 : decode cX11_correlates 71 = .ok (.lastore, 1) := by decide +kernel
theorem dX11_correlates_72 : decode cX11_correlates 72 = .ok (.iinc 4 1, 3) := by decide +kernel
theorem dX11_correlates_75 : decode cX11_correlates 75 = .ok (.goto (-35), 3) := by decide +kernel
theorem dX11_correlates_78 : decode cX11_correlates 78 = .ok (.iconst 0, 1) := by decide +kernel
theorem dX11_correlates_79 : decode cX11_correlates 79 = .ok (.istore 4, 2) := by decide +kernel
theorem dX11_correlates_81 : decode cX11_correlates 81 = .ok (.iload 4, 2) := by decide +kernel
theorem dX11_correlates_83 : decode cX11_correlates 83 = .ok (.bipush 9, 2) := by decide +kernel
theorem dX11_correlates_85 : decode cX11_correlates 85 = .ok (.if_icmp .ge 66, 3) := by decide +kernel
theorem dX11_correlates_88 : decode cX11_correlates 88 = .ok (.lconst 0, 1) := by decide +kernel
theorem dX11_correlates_89 : decode cX11_correlates 89 = .ok (.lstore 5, 2) := by decide +kernel
theorem dX11_correlates_91 : decode cX11_correlates 91 = .ok (.iload 4, 2) := by decide +kernel
theorem dX11_correlates_93 : decode cX11_correlates 93 = .ok (.istore 7, 2) := by decide +kernel
theorem dX11_correlates_95 : decode cX11_correlates 95 = .ok (.iload 7, 2) := by decide +kernel
theorem dX11_correlates_97 : decode cX11_correlates 97 = .ok (.sipush 160, 3) := by decide +kernel
theorem dX11_correlates_100 : decode cX11_correlates 100 = .ok (.if_icmp .ge 32, 3) := by decide +kernel
theorem dX11_correlates_103 : decode cX11_correlates 103 = .ok (.lload 5, 2) := by decide +kernel
theorem dX11_correlates_105 : decode cX11_correlates 105 = .ok (.aload_n 0, 1) := by decide +kernel
theorem dX11_correlates_106 : decode cX11_correlates 106 = .ok (.getfield 39, 3) := by decide +kernel
theorem dX11_correlates_109 : decode cX11_correlates 109 = .ok (.iload 7, 2) := by decide +kernel
theorem dX11_correlates_111 : decode cX11_correlates 111 = .ok (.laload, 1) := by decide +kernel
theorem dX11_correlates_112 : decode cX11_correlates 112 = .ok (.aload_n 0, 1) := by decide +kernel
theorem dX11_correlates_113 : decode cX11_correlates 113 = .ok (.getfield 39, 3) := by decide +kernel
theorem dX11_correlates_116 : decode cX11_correlates 116 = .ok (.iload 7, 2) := by decide +kernel
theorem dX11_correlates_118 : decode cX11_correlates 118 = .ok (.iload 4, 2) := by decide +kernel
theorem dX11_correlates_120 : decode cX11_correlates 120 = .ok (.isub, 1) := by decide +kernel
theorem dX11_correlates_121 : decode cX11_correlates 121 = .ok (.laload, 1) := by decide +kernel
theorem dX11_correlates_122 : decode cX11_correlates 122 = .ok (.lmul, 1) := by decide +kernel
theorem dX11_correlates_123 : decode cX11_correlates 123 = .ok (.ladd, 1) := by decide +kernel
theorem dX11_correlates_124 : decode cX11_correlates 124 = .ok (.lstore 5, 2) := by decide +kernel
theorem dX11_correlates_126 : decode cX11_correlates 126 = .ok (.iinc 7 1, 3) := by decide +kernel
theorem dX11_correlates_129 : decode cX11_correlates 129 = .ok (.goto (-34), 3) := by decide +kernel
theorem dX11_correlates_132 : decode cX11_correlates 132 = .ok (.aload_n 0, 1) := by decide +kernel
theorem dX11_correlates_133 : decode cX11_correlates 133 = .ok (.getfield 51, 3) := by decide +kernel
theorem dX11_correlates_136 : decode cX11_correlates 136 = .ok (.iload 4, 2) := by decide +kernel
theorem dX11_correlates_138 : decode cX11_correlates 138 = .ok (.ldc2_w 135, 3) := by decide +kernel
theorem dX11_correlates_141 : decode cX11_correlates 141 = .ok (.lload 5, 2) := by decide +kernel
theorem dX11_correlates_143 : decode cX11_correlates 143 = .ok (.lmul, 1) := by decide +kernel
theorem dX11_correlates_144 : decode cX11_correlates 144 = .ok (.lastore, 1) := by decide +kernel
theorem dX11_correlates_145 : decode cX11_correlates 145 = .ok (.iinc 4 1, 3) := by decide +kernel
theorem dX11_correlates_148 : decode cX11_correlates 148 = .ok (.goto (-67), 3) := by decide +kernel
theorem dX11_correlates_151 : decode cX11_correlates 151 = .ok (.iconst 0, 1) := by decide +kernel
theorem dX11_correlates_152 : decode cX11_correlates 152 = .ok (.istore 4, 2) := by decide +kernel
theorem dX11_correlates_154 : decode cX11_correlates 154 = .ok (.iload 4, 2) := by decide +kernel
theorem dX11_correlates_156 : decode cX11_correlates 156 = .ok (.sipush 160, 3) := by decide +kernel
theorem dX11_correlates_159 : decode cX11_correlates 159 = .ok (.if_icmp .ge 32, 3) := by decide +kernel
theorem dX11_correlates_162 : decode cX11_correlates 162 = .ok (.iload_n 3, 1) := by decide +kernel
theorem dX11_correlates_163 : decode cX11_correlates 163 = .ok (.ifCond .le 28, 3) := by decide +kernel
theorem dX11_correlates_166 : decode cX11_correlates 166 = .ok (.aload_n 0, 1) := by decide +kernel
theorem dX11_correlates_167 : decode cX11_correlates 167 = .ok (.getfield 39, 3) := by decide +kernel
theorem dX11_correlates_170 : decode cX11_correlates 170 = .ok (.iload 4, 2) := by decide +kernel
theorem dX11_correlates_172 : decode cX11_correlates 172 = .ok (.aload_n 0, 1) := by decide +kernel
theorem dX11_correlates_173 : decode cX11_correlates 173 = .ok (.getfield 39, 3) := by decide +kernel
theorem dX11_correlates_176 : decode cX11_correlates 176 = .ok (.iload 4, 2) := by decide +kernel
theorem dX11_correlates_178 : decode cX11_correlates 178 = .ok (.laload, 1) := by decide +kernel
theorem dX11_correlates_179 : decode cX11_correlates 179 = .ok (.iload_n 3, 1) := by decide +kernel
theorem dX11_correlates_180 : decode cX11_correlates 180 = .ok (.lshl, 1) := by decide +kernel
theorem dX11_correlates_181 : decode cX11_correlates 181 = .ok (.invokestatic 82, 3) := by decide +kernel
theorem dX11_correlates_184 : decode cX11_correlates 184 = .ok (.lastore, 1) := by decide +kernel
theorem dX11_correlates_185 : decode cX11_correlates 185 = .ok (.iinc 4 1, 3) := by decide +kernel
theorem dX11_correlates_188 : decode cX11_correlates 188 = .ok (.goto (-34), 3) := by decide +kernel
theorem dX11_correlates_191 : decode cX11_correlates 191 = .ok (.return_, 1) := by decide +kernel
theorem dX11_reflects_0 : decode cX11_reflects 0 = .ok (.iconst 0, 1) := by decide +kernel
theorem dX11_reflects_1 : decode cX11_reflects 1 = .ok (.istore_n 1, 1) := by decide +kernel
theorem dX11_reflects_2 : decode cX11_reflects 2 = .ok (.iload_n 1, 1) := by decide +kernel
theorem dX11_reflects_3 : decode cX11_reflects 3 = .ok (.bipush 9, 2) := by decide +kernel
theorem dX11_reflects_5 : decode cX11_reflects 5 = .ok (.if_icmp .ge 16, 3) := by decide +kernel
theorem dX11_reflects_8 : decode cX11_reflects 8 = .ok (.aload_n 0, 1) := by decide +kernel
theorem dX11_reflects_9 : decode cX11_reflects 9 = .ok (.getfield 60, 3) := by decide +kernel
theorem dX11_reflects_12 : decode cX11_reflects 12 = .ok (.iload_n 1, 1) := by decide +kernel
theorem dX11_reflects_13 : decode cX11_reflects 13 = .ok (.lconst 0, 1) := by decide +kernel
theorem dX11_reflects_14 : decode cX11_reflects 14 = .ok (.lastore, 1) := by decide +kernel
theorem dX11_reflects_15 : decode cX11_reflects 15 = .ok (.iinc 1 1, 3) := by decide +kernel
theorem dX11_reflects_18 : decode cX11_reflects 18 = .ok (.goto (-16), 3) := by decide +kernel
theorem dX11_reflects_21 : decode cX11_reflects 21 = .ok (.aload_n 0, 1) := by decide +kernel
theorem dX11_reflects_22 : decode cX11_reflects 22 = .ok (.getfield 51, 3) := by decide +kernel
theorem dX11_reflects_25 : decode cX11_reflects 25 = .ok (.iconst 0, 1) := by decide +kernel
theorem dX11_reflects_26 : decode cX11_reflects 26 = .ok (.laload, 1) := by decide +kernel
theorem dX11_reflects_27 : decode cX11_reflects 27 = .ok (.lconst 0, 1) := by decide +kernel
theorem dX11_reflects_28 : decode cX11_reflects 28 = .ok (.lcmp, 1) := by decide +kernel
theorem dX11_reflects_29 : decode cX11_reflects 29 = .ok (.ifCond .ne 4, 3) := by decide +kernel
theorem dX11_reflects_32 : decode cX11_reflects 32 = .ok (.return_, 1) := by decide +kernel
theorem dX11_reflects_33 : decode cX11_reflects 33 = .ok (.aload_n 0, 1) := by decide +kernel
theorem dX11_reflects_34 : decode cX11_reflects 34 = .ok (.getfield 51, 3) := by decide +kernel
theorem dX11_reflects_37 : decode cX11_reflects 37 = .ok (.iconst 0, 1) := by decide +kernel
theorem dX11_reflects_38 : decode cX11_reflects 38 = .ok (.laload, 1) := by decide +kernel
theorem dX11_reflects_39 : decode cX11_reflects 39 = .ok (.invokestatic 131, 3) := by decide +kernel
theorem dX11_reflects_42 : decode cX11_reflects 42 = .ok (.istore_n 1, 1) := by decide +kernel
theorem dX11_reflects_43 : decode cX11_reflects 43 = .ok (.iconst 0, 1) := by decide +kernel
theorem dX11_reflects_44 : decode cX11_reflects 44 = .ok (.istore_n 2, 1) := by decide +kernel
theorem dX11_reflects_45 : decode cX11_reflects 45 = .ok (.iload_n 2, 1) := by decide +kernel
theorem dX11_reflects_46 : decode cX11_reflects 46 = .ok (.bipush 9, 2) := by decide +kernel
theorem dX11_reflects_48 : decode cX11_reflects 48 = .ok (.if_icmp .ge 38, 3) := by decide +kernel
theorem dX11_reflects_51 : decode cX11_reflects 51 = .ok (.aload_n 0, 1) := by decide +kernel
theorem dX11_reflects_52 : decode cX11_reflects 52 = .ok (.getfield 54, 3) := by decide +kernel
theorem dX11_reflects_55 : decode cX11_reflects 55 = .ok (.iload_n 2, 1) := by decide +kernel
theorem dX11_reflects_56 : decode cX11_reflects 56 = .ok (.aload_n 0, 1) := by decide +kernel
theorem dX11_reflects_57 : decode cX11_reflects 57 = .ok (.getfield 51, 3) := by decide +kernel
theorem dX11_reflects_60 : decode cX11_reflects 60 = .ok (.iload_n 2, 1) := by decide +kernel
theorem dX11_reflects_61 : decode cX11_reflects 61 = .ok (.laload, 1) := by decide +kernel
theorem dX11_reflects_62 : decode cX11_reflects 62 = .ok (.iload_n 1, 1) := by decide +kernel
theorem dX11_reflects_63 : decode cX11_reflects 63 = .ok (.lshl, 1) := by decide +kernel
theorem dX11_reflects_64 : decode cX11_reflects 64 = .ok (.bipush 16, 2) := by decide +kernel
theorem dX11_reflects_66 : decode cX11_reflects 66 = .ok (.lshr, 1) := by decide +kernel
theorem dX11_reflects_67 : decode cX11_reflects 67 = .ok (.lastore, 1) := by decide +kernel
theorem dX11_reflects_68 : decode cX11_reflects 68 = .ok (.aload_n 0, 1) := by decide +kernel
theorem dX11_reflects_69 : decode cX11_reflects 69 = .ok (.getfield 57, 3) := by decide +kernel
theorem dX11_reflects_72 : decode cX11_reflects 72 = .ok (.iload_n 2, 1) := by decide +kernel
theorem dX11_reflects_73 : decode cX11_reflects 73 = .ok (.aload_n 0, 1) := by decide +kernel
theorem dX11_reflects_74 : decode cX11_reflects 74 = .ok (.getfield 54, 3) := by decide +kernel
theorem dX11_reflects_77 : decode cX11_reflects 77 = .ok (.iload_n 2, 1) := by decide +kernel
theorem dX11_reflects_78 : decode cX11_reflects 78 = .ok (.laload, 1) := by decide +kernel
theorem dX11_reflects_79 : decode cX11_reflects 79 = .ok (.lastore, 1) := by decide +kernel
theorem dX11_reflects_80 : decode cX11_reflects 80 = .ok (.iinc 2 1, 3) := by decide +kernel
theorem dX11_reflects_83 : decode cX11_reflects 83 = .ok (.goto (-38), 3) := by decide +kernel
theorem dX11_reflects_86 : decode cX11_reflects 86 = .ok (.iconst 1, 1) := by decide +kernel
theorem dX11_reflects_87 : decode cX11_reflects 87 = .ok (.istore_n 2, 1) := by decide +kernel
theorem dX11_reflects_88 : decode cX11_reflects 88 = .ok (.iload_n 2, 1) := by decide +kernel
theorem dX11_reflects_89 : decode cX11_reflects 89 = .ok (.bipush 9, 2) := by decide +kernel
theorem dX11_reflects_91 : decode cX11_reflects 91 = .ok (.if_icmp .ge 224, 3) := by decide +kernel
theorem dX11_reflects_94 : decode cX11_reflects 94 = .ok (.aload_n 0, 1) := by decide +kernel
theorem dX11_reflects_95 : decode cX11_reflects 95 = .ok (.getfield 54, 3) := by decide +kernel
theorem dX11_reflects_98 : decode cX11_reflects 98 = .ok (.iconst 1, 1) := by decide +kernel
theorem dX11_reflects_99 : decode cX11_reflects 99 = .ok (.laload, 1) := by decide +kernel
theorem dX11_reflects_100 : decode cX11_reflects 100 = .ok (.invokestatic 124, 3) := by decide +kernel
theorem dX11_reflects_103 : decode cX11_reflects 103 = .ok (.lstore_n 3, 1) := by decide +kernel
theorem dX11_reflects_104 : decode cX11_reflects 104 = .ok (.aload_n 0, 1) := by decide +kernel
theorem dX11_reflects_105 : decode cX11_reflects 105 = .ok (.getfield 54, 3) := by decide +kernel
theorem dX11_reflects_108 : decode cX11_reflects 108 = .ok (.iconst 0, 1) := by decide +kernel
theorem dX11_reflects_109 : decode cX11_reflects 109 = .ok (.laload, 1) := by decide +kernel
theorem dX11_reflects_110 : decode cX11_reflects 110 = .ok (.lload_n 3, 1) := by decide +kernel
theorem dX11_reflects_111 : decode cX11_reflects 111 = .ok (.lcmp, 1) := by decide +kernel
theorem dX11_reflects_112 : decode cX11_reflects 112 = .ok (.ifCond .ge 4, 3) := by decide +kernel
theorem dX11_reflects_115 : decode cX11_reflects 115 = .ok (.return_, 1) := by decide +kernel
theorem dX11_reflects_116 : decode cX11_reflects 116 = .ok (.lload_n 3, 1) := by decide +kernel
theorem dX11_reflects_117 : decode cX11_reflects 117 = .ok (.lconst 0, 1) := by decide +kernel
theorem dX11_reflects_118 : decode cX11_reflects 118 = .ok (.lcmp, 1) := by decide +kernel
theorem dX11_reflects_119 : decode cX11_reflects 119 = .ok (.ifCond .ne 7, 3) := by decide +kernel
theorem dX11_reflects_122 : decode cX11_reflects 122 = .ok (.lconst 0, 1) := by decide +kernel
theorem dX11_reflects_123 : decode cX11_reflects 123 = .ok (.goto 15, 3) := by decide +kernel
theorem dX11_reflects_126 : decode cX11_reflects 126 = .ok (.lload_n 3, 1) := by decide +kernel
theorem dX11_reflects_127 : decode cX11_reflects 127 = .ok (.ldc2_w 105, 3) := by decide +kernel
theorem dX11_reflects_130 : decode cX11_reflects 130 = .ok (.lmul, 1) := by decide +kernel
theorem dX11_reflects_131 : decode cX11_reflects 131 = .ok (.aload_n 0, 1) := by decide +kernel
theorem dX11_reflects_132 : decode cX11_reflects 132 = .ok (.getfield 54, 3) := by decide +kernel
theorem dX11_reflects_135 : decode cX11_reflects 135 = .ok (.iconst 0, 1) := by decide +kernel
theorem dX11_reflects_136 : decode cX11_reflects 136 = .ok (.laload, 1) := by decide +kernel
theorem dX11_reflects_137 : decode cX11_reflects 137 = .ok (.ldiv, 1) := by decide +kernel
theorem dX11_reflects_138 : decode cX11_reflects 138 = .ok (.lstore 5, 2) := by decide +kernel
theorem dX11_reflects_140 : decode cX11_reflects 140 = .ok (.lload 5, 2) := by decide +kernel
theorem dX11_reflects_142 : decode cX11_reflects 142 = .ok (.ldc2_w 72, 3) := by decide +kernel
theorem dX11_reflects_145 : decode cX11_reflects 145 = .ok (.lcmp, 1) := by decide +kernel
theorem dX11_reflects_146 : decode cX11_reflects 146 = .ok (.ifCond .le 9, 3) := by decide +kernel
theorem dX11_reflects_149 : decode cX11_reflects 149 = .ok (.ldc2_w 72, 3) := by decide +kernel
theorem dX11_reflects_152 : decode cX11_reflects 152 = .ok (.goto 5, 3) := by decide +kernel
theorem dX11_reflects_155 : decode cX11_reflects 155 = .ok (.lload 5, 2) := by decide +kernel
theorem dX11_reflects_157 : decode cX11_reflects 157 = .ok (.lstore 5, 2) := by decide +kernel
theorem dX11_reflects_159 : decode cX11_reflects 159 = .ok (.aload_n 0, 1) := by decide +kernel
theorem dX11_reflects_160 : decode cX11_reflects 160 = .ok (.getfield 60, 3) := by decide +kernel
theorem dX11_reflects_163 : decode cX11_reflects 163 = .ok (.iload_n 2, 1) := by decide +kernel
theorem dX11_reflects_164 : decode cX11_reflects 164 = .ok (.aload_n 0, 1) := by decide +kernel
theorem dX11_reflects_165 : decode cX11_reflects 165 = .ok (.getfield 54, 3) := by decide +kernel
theorem dX11_reflects_168 : decode cX11_reflects 168 = .ok (.iconst 1, 1) := by decide +kernel
theorem dX11_reflects_169 : decode cX11_reflects 169 = .ok (.laload, 1) := by decide +kernel
theorem dX11_reflects_170 : decode cX11_reflects 170 = .ok (.lconst 0, 1) := by decide +kernel
theorem dX11_reflects_171 : decode cX11_reflects 171 = .ok (.lcmp, 1) := by decide +kernel
theorem dX11_reflects_172 : decode cX11_reflects 172 = .ok (.ifCond .le 9, 3) := by decide +kernel
theorem dX11_reflects_175 : decode cX11_reflects 175 = .ok (.lload 5, 2) := by decide +kernel
theorem dX11_reflects_177 : decode cX11_reflects 177 = .ok (.lneg, 1) := by decide +kernel
theorem dX11_reflects_178 : decode cX11_reflects 178 = .ok (.goto 5, 3) := by decide +kernel
theorem dX11_reflects_181 : decode cX11_reflects 181 = .ok (.lload 5, 2) := by decide +kernel
theorem dX11_reflects_183 : decode cX11_reflects 183 = .ok (.lastore, 1) := by decide +kernel
theorem dX11_reflects_184 : decode cX11_reflects 184 = .ok (.aload_n 0, 1) := by decide +kernel
theorem dX11_reflects_185 : decode cX11_reflects 185 = .ok (.getfield 54, 3) := by decide +kernel
theorem dX11_reflects_188 : decode cX11_reflects 188 = .ok (.iconst 0, 1) := by decide +kernel
theorem dX11_reflects_189 : decode cX11_reflects 189 = .ok (.aload_n 0, 1) := by decide +kernel
theorem dX11_reflects_190 : decode cX11_reflects 190 = .ok (.getfield 54, 3) := by decide +kernel
theorem dX11_reflects_193 : decode cX11_reflects 193 = .ok (.iconst 0, 1) := by decide +kernel
theorem dX11_reflects_194 : decode cX11_reflects 194 = .ok (.laload, 1) := by decide +kernel
theorem dX11_reflects_195 : decode cX11_reflects 195 = .ok (.aload_n 0, 1) := by decide +kernel
theorem dX11_reflects_196 : decode cX11_reflects 196 = .ok (.getfield 54, 3) := by decide +kernel
theorem dX11_reflects_199 : decode cX11_reflects 199 = .ok (.iconst 1, 1) := by decide +kernel
theorem dX11_reflects_200 : decode cX11_reflects 200 = .ok (.laload, 1) := by decide +kernel
theorem dX11_reflects_201 : decode cX11_reflects 201 = .ok (.aload_n 0, 1) := by decide +kernel
theorem dX11_reflects_202 : decode cX11_reflects 202 = .ok (.getfield 60, 3) := by decide +kernel
theorem dX11_reflects_205 : decode cX11_reflects 205 = .ok (.iload_n 2, 1) := by decide +kernel
theorem dX11_reflects_206 : decode cX11_reflects 206 = .ok (.laload, 1) := by decide +kernel
theorem dX11_reflects_207 : decode cX11_reflects 207 = .ok (.invokestatic 112, 3) := by decide +kernel
theorem dX11_reflects_210 : decode cX11_reflects 210 = .ok (.ladd, 1) := by decide +kernel
theorem dX11_reflects_211 : decode cX11_reflects 211 = .ok (.invokestatic 82, 3) := by decide +kernel
theorem dX11_reflects_214 : decode cX11_reflects 214 = .ok (.lastore, 1) := by decide +kernel
theorem dX11_reflects_215 : decode cX11_reflects 215 = .ok (.iconst 1, 1) := by decide +kernel
theorem dX11_reflects_216 : decode cX11_reflects 216 = .ok (.istore 7, 2) := by decide +kernel
theorem dX11_reflects_218 : decode cX11_reflects 218 = .ok (.iload 7, 2) := by decide +kernel
theorem dX11_reflects_220 : decode cX11_reflects 220 = .ok (.bipush 8, 2) := by decide +kernel
theorem dX11_reflects_222 : decode cX11_reflects 222 = .ok (.iload_n 2, 1) := by decide +kernel
theorem dX11_reflects_223 : decode cX11_reflects 223 = .ok (.isub, 1) := by decide +kernel
theorem dX11_reflects_224 : decode cX11_reflects 224 = .ok (.if_icmp .gt 85, 3) := by decide +kernel
theorem dX11_reflects_227 : decode cX11_reflects 227 = .ok (.aload_n 0, 1) := by decide +kernel
theorem dX11_reflects_228 : decode cX11_reflects 228 = .ok (.getfield 54, 3) := by decide +kernel
theorem dX11_reflects_231 : decode cX11_reflects 231 = .ok (.iload 7, 2) := by decide +kernel
theorem dX11_reflects_233 : decode cX11_reflects 233 = .ok (.iconst 1, 1) := by decide +kernel
theorem dX11_reflects_234 : decode cX11_reflects 234 = .ok (.iadd, 1) := by decide +kernel
theorem dX11_reflects_235 : decode cX11_reflects 235 = .ok (.laload, 1) := by decide +kernel
theorem dX11_reflects_236 : decode cX11_reflects 236 = .ok (.aload_n 0, 1) := by decide +kernel
theorem dX11_reflects_237 : decode cX11_reflects 237 = .ok (.getfield 57, 3) := by decide +kernel
theorem dX11_reflects_240 : decode cX11_reflects 240 = .ok (.iload 7, 2) := by decide +kernel
theorem dX11_reflects_242 : decode cX11_reflects 242 = .ok (.laload, 1) := by decide +kernel
theorem dX11_reflects_243 : decode cX11_reflects 243 = .ok (.aload_n 0, 1) := by decide +kernel
theorem dX11_reflects_244 : decode cX11_reflects 244 = .ok (.getfield 60, 3) := by decide +kernel
theorem dX11_reflects_247 : decode cX11_reflects 247 = .ok (.iload_n 2, 1) := by decide +kernel
theorem dX11_reflects_248 : decode cX11_reflects 248 = .ok (.laload, 1) := by decide +kernel
theorem dX11_reflects_249 : decode cX11_reflects 249 = .ok (.invokestatic 112, 3) := by decide +kernel
theorem dX11_reflects_252 : decode cX11_reflects 252 = .ok (.ladd, 1) := by decide +kernel
theorem dX11_reflects_253 : decode cX11_reflects 253 = .ok (.invokestatic 82, 3) := by decide +kernel
theorem dX11_reflects_256 : decode cX11_reflects 256 = .ok (.lstore 8, 2) := by decide +kernel
theorem dX11_reflects_258 : decode cX11_reflects 258 = .ok (.aload_n 0, 1) := by decide +kernel
theorem dX11_reflects_259 : decode cX11_reflects 259 = .ok (.getfield 57, 3) := by decide +kernel
theorem dX11_reflects_262 : decode cX11_reflects 262 = .ok (.iload 7, 2) := by decide +kernel
theorem dX11_reflects_264 : decode cX11_reflects 264 = .ok (.aload_n 0, 1) := by decide +kernel
theorem dX11_reflects_265 : decode cX11_reflects 265 = .ok (.getfield 57, 3) := by decide +kernel
theorem dX11_reflects_268 : decode cX11_reflects 268 = .ok (.iload 7, 2) := by decide +kernel
theorem dX11_reflects_270 : decode cX11_reflects 270 = .ok (.laload, 1) := by decide +kernel
theorem dX11_reflects_271 : decode cX11_reflects 271 = .ok (.aload_n 0, 1) := by decide +kernel
theorem dX11_reflects_272 : decode cX11_reflects 272 = .ok (.getfield 54, 3) := by decide +kernel
theorem dX11_reflects_275 : decode cX11_reflects 275 = .ok (.iload 7, 2) := by decide +kernel
theorem dX11_reflects_277 : decode cX11_reflects 277 = .ok (.iconst 1, 1) := by decide +kernel
theorem dX11_reflects_278 : decode cX11_reflects 278 = .ok (.iadd, 1) := by decide +kernel
theorem dX11_reflects_279 : decode cX11_reflects 279 = .ok (.laload, 1) := by decide +kernel
theorem dX11_reflects_280 : decode cX11_reflects 280 = .ok (.aload_n 0, 1) := by decide +kernel
theorem dX11_reflects_281 : decode cX11_reflects 281 = .ok (.getfield 60, 3) := by decide +kernel
theorem dX11_reflects_284 : decode cX11_reflects 284 = .ok (.iload_n 2, 1) := by decide +kernel
theorem dX11_reflects_285 : decode cX11_reflects 285 = .ok (.laload, 1) := by decide +kernel
theorem dX11_reflects_286 : decode cX11_reflects 286 = .ok (.invokestatic 112, 3) := by decide +kernel
theorem dX11_reflects_289 : decode cX11_reflects 289 = .ok (.ladd, 1) := by decide +kernel
theorem dX11_reflects_290 : decode cX11_reflects 290 = .ok (.invokestatic 82, 3) := by decide +kernel
theorem dX11_reflects_293 : decode cX11_reflects 293 = .ok (.lastore, 1) := by decide +kernel
theorem dX11_reflects_294 : decode cX11_reflects 294 = .ok (.aload_n 0, 1) := by decide +kernel
theorem dX11_reflects_295 : decode cX11_reflects 295 = .ok (.getfield 54, 3) := by decide +kernel
theorem dX11_reflects_298 : decode cX11_reflects 298 = .ok (.iload 7, 2) := by decide +kernel
theorem dX11_reflects_300 : decode cX11_reflects 300 = .ok (.lload 8, 2) := by decide +kernel
theorem dX11_reflects_302 : decode cX11_reflects 302 = .ok (.lastore, 1) := by decide +kernel
theorem dX11_reflects_303 : decode cX11_reflects 303 = .ok (.iinc 7 1, 3) := by decide +kernel
theorem dX11_reflects_306 : decode cX11_reflects 306 = .ok (.goto (-88), 3) := by decide +kernel
theorem dX11_reflects_309 : decode cX11_reflects 309 = .ok (.iinc 2 1, 3) := by decide +kernel
theorem dX11_reflects_312 : decode cX11_reflects 312 = .ok (.goto (-224), 3) := by decide +kernel
theorem dX11_reflects_315 : decode cX11_reflects 315 = .ok (.return_, 1) := by decide +kernel
theorem dX11_tellsFilter_0 : decode cX11_tellsFilter 0 = .ok (.iconst 0, 1) := by decide +kernel
theorem dX11_tellsFilter_1 : decode cX11_tellsFilter 1 = .ok (.istore_n 1, 1) := by decide +kernel
theorem dX11_tellsFilter_2 : decode cX11_tellsFilter 2 = .ok (.iload_n 1, 1) := by decide +kernel
theorem dX11_tellsFilter_3 : decode cX11_tellsFilter 3 = .ok (.bipush 8, 2) := by decide +kernel
theorem dX11_tellsFilter_5 : decode cX11_tellsFilter 5 = .ok (.if_icmp .ge 171, 3) := by decide +kernel
theorem dX11_tellsFilter_8 : decode cX11_tellsFilter 8 = .ok (.aload_n 0, 1) := by decide +kernel
theorem dX11_tellsFilter_9 : decode cX11_tellsFilter 9 = .ok (.getfield 60, 3) := by decide +kernel
theorem dX11_tellsFilter_12 : decode cX11_tellsFilter 12 = .ok (.iload_n 1, 1) := by decide +kernel
theorem dX11_tellsFilter_13 : decode cX11_tellsFilter 13 = .ok (.iconst 1, 1) := by decide +kernel
theorem dX11_tellsFilter_14 : decode cX11_tellsFilter 14 = .ok (.iadd, 1) := by decide +kernel
theorem dX11_tellsFilter_15 : decode cX11_tellsFilter 15 = .ok (.laload, 1) := by decide +kernel
theorem dX11_tellsFilter_16 : decode cX11_tellsFilter 16 = .ok (.invokestatic 124, 3) := by decide +kernel
theorem dX11_tellsFilter_19 : decode cX11_tellsFilter 19 = .ok (.lstore_n 2, 1) := by decide +kernel
theorem dX11_tellsFilter_20 : decode cX11_tellsFilter 20 = .ok (.lload_n 2, 1) := by decide +kernel
theorem dX11_tellsFilter_21 : decode cX11_tellsFilter 21 = .ok (.ldc2_w 137, 3) := by decide +kernel
theorem dX11_tellsFilter_24 : decode cX11_tellsFilter 24 = .ok (.lcmp, 1) := by decide +kernel
theorem dX11_tellsFilter_25 : decode cX11_tellsFilter 25 = .ok (.ifCond .ge 9, 3) := by decide +kernel
theorem dX11_tellsFilter_28 : decode cX11_tellsFilter 28 = .ok (.lload_n 2, 1) := by decide +kernel
theorem dX11_tellsFilter_29 : decode cX11_tellsFilter 29 = .ok (.iconst 1, 1) := by decide +kernel
theorem dX11_tellsFilter_30 : decode cX11_tellsFilter 30 = .ok (.lshr, 1) := by decide +kernel
theorem dX11_tellsFilter_31 : decode cX11_tellsFilter 31 = .ok (.goto 28, 3) := by decide +kernel
theorem dX11_tellsFilter_34 : decode cX11_tellsFilter 34 = .ok (.lload_n 2, 1) := by decide +kernel
theorem dX11_tellsFilter_35 : decode cX11_tellsFilter 35 = .ok (.ldc2_w 139, 3) := by decide +kernel
theorem dX11_tellsFilter_38 : decode cX11_tellsFilter 38 = .ok (.lcmp, 1) := by decide +kernel
theorem dX11_tellsFilter_39 : decode cX11_tellsFilter 39 = .ok (.ifCond .ge 11, 3) := by decide +kernel
theorem dX11_tellsFilter_42 : decode cX11_tellsFilter 42 = .ok (.lload_n 2, 1) := by decide +kernel
theorem dX11_tellsFilter_43 : decode cX11_tellsFilter 43 = .ok (.ldc2_w 141, 3) := by decide +kernel
theorem dX11_tellsFilter_46 : decode cX11_tellsFilter 46 = .ok (.lsub, 1) := by decide +kernel
theorem dX11_tellsFilter_47 : decode cX11_tellsFilter 47 = .ok (.goto 12, 3) := by decide +kernel
theorem dX11_tellsFilter_50 : decode cX11_tellsFilter 50 = .ok (.lload_n 2, 1) := by decide +kernel
theorem dX11_tellsFilter_51 : decode cX11_tellsFilter 51 = .ok (.ldc2_w 143, 3) := by decide +kernel
theorem dX11_tellsFilter_54 : decode cX11_tellsFilter 54 = .ok (.lsub, 1) := by decide +kernel
theorem dX11_tellsFilter_55 : decode cX11_tellsFilter 55 = .ok (.ldc2_w 99, 3) := by decide +kernel
theorem dX11_tellsFilter_58 : decode cX11_tellsFilter 58 = .ok (.lmul, 1) := by decide +kernel
theorem dX11_tellsFilter_59 : decode cX11_tellsFilter 59 = .ok (.lstore_n 2, 1) := by decide +kernel
theorem dX11_tellsFilter_60 : decode cX11_tellsFilter 60 = .ok (.aload_n 0, 1) := by decide +kernel
theorem dX11_tellsFilter_61 : decode cX11_tellsFilter 61 = .ok (.getfield 60, 3) := by decide +kernel
theorem dX11_tellsFilter_64 : decode cX11_tellsFilter 64 = .ok (.iload_n 1, 1) := by decide +kernel
theorem dX11_tellsFilter_65 : decode cX11_tellsFilter 65 = .ok (.iconst 1, 1) := by decide +kernel
theorem dX11_tellsFilter_66 : decode cX11_tellsFilter 66 = .ok (.iadd, 1) := by decide +kernel
theorem dX11_tellsFilter_67 : decode cX11_tellsFilter 67 = .ok (.laload, 1) := by decide +kernel
theorem dX11_tellsFilter_68 : decode cX11_tellsFilter 68 = .ok (.lconst 0, 1) := by decide +kernel
theorem dX11_tellsFilter_69 : decode cX11_tellsFilter 69 = .ok (.lcmp, 1) := by decide +kernel
theorem dX11_tellsFilter_70 : decode cX11_tellsFilter 70 = .ok (.ifCond .ge 8, 3) := by decide +kernel
theorem dX11_tellsFilter_73 : decode cX11_tellsFilter 73 = .ok (.lload_n 2, 1) := by decide +kernel
theorem dX11_tellsFilter_74 : decode cX11_tellsFilter 74 = .ok (.lneg, 1) := by decide +kernel
theorem dX11_tellsFilter_75 : decode cX11_tellsFilter 75 = .ok (.goto 4, 3) := by decide +kernel
theorem dX11_tellsFilter_78 : decode cX11_tellsFilter 78 = .ok (.lload_n 2, 1) := by decide +kernel
theorem dX11_tellsFilter_79 : decode cX11_tellsFilter 79 = .ok (.lstore_n 2, 1) := by decide +kernel
theorem dX11_tellsFilter_80 : decode cX11_tellsFilter 80 = .ok (.iload_n 1, 1) := by decide +kernel
theorem dX11_tellsFilter_81 : decode cX11_tellsFilter 81 = .ok (.invokestatic 145, 3) := by decide +kernel
theorem dX11_tellsFilter_84 : decode cX11_tellsFilter 84 = .ok (.i2l, 1) := by decide +kernel
theorem dX11_tellsFilter_85 : decode cX11_tellsFilter 85 = .ok (.lload_n 2, 1) := by decide +kernel
theorem dX11_tellsFilter_86 : decode cX11_tellsFilter 86 = .ok (.invokestatic 149, 3) := by decide +kernel
theorem dX11_tellsFilter_89 : decode cX11_tellsFilter 89 = .ok (.iload_n 1, 1) := by decide +kernel
theorem dX11_tellsFilter_90 : decode cX11_tellsFilter 90 = .ok (.invokestatic 152, 3) := by decide +kernel
theorem dX11_tellsFilter_93 : decode cX11_tellsFilter 93 = .ok (.i2l, 1) := by decide +kernel
theorem dX11_tellsFilter_94 : decode cX11_tellsFilter 94 = .ok (.ladd, 1) := by decide +kernel
theorem dX11_tellsFilter_95 : decode cX11_tellsFilter 95 = .ok (.invokestatic 82, 3) := by decide +kernel
theorem dX11_tellsFilter_98 : decode cX11_tellsFilter 98 = .ok (.ldc2_w 155, 3) := by decide +kernel
theorem dX11_tellsFilter_101 : decode cX11_tellsFilter 101 = .ok (.ladd, 1) := by decide +kernel
theorem dX11_tellsFilter_102 : decode cX11_tellsFilter 102 = .ok (.invokestatic 82, 3) := by decide +kernel
theorem dX11_tellsFilter_105 : decode cX11_tellsFilter 105 = .ok (.bipush 9, 2) := by decide +kernel
theorem dX11_tellsFilter_107 : decode cX11_tellsFilter 107 = .ok (.lshr, 1) := by decide +kernel
theorem dX11_tellsFilter_108 : decode cX11_tellsFilter 108 = .ok (.lstore 4, 2) := by decide +kernel
theorem dX11_tellsFilter_110 : decode cX11_tellsFilter 110 = .ok (.iload_n 1, 1) := by decide +kernel
theorem dX11_tellsFilter_111 : decode cX11_tellsFilter 111 = .ok (.invokestatic 157, 3) := by decide +kernel
theorem dX11_tellsFilter_114 : decode cX11_tellsFilter 114 = .ok (.ineg, 1) := by decide +kernel
theorem dX11_tellsFilter_115 : decode cX11_tellsFilter 115 = .ok (.i2l, 1) := by decide +kernel
theorem dX11_tellsFilter_116 : decode cX11_tellsFilter 116 = .ok (.lconst 1, 1) := by decide +kernel
theorem dX11_tellsFilter_117 : decode cX11_tellsFilter 117 = .ok (.lsub, 1) := by decide +kernel
theorem dX11_tellsFilter_118 : decode cX11_tellsFilter 118 = .ok (.lstore 6, 2) := by decide +kernel
theorem dX11_tellsFilter_120 : decode cX11_tellsFilter 120 = .ok (.lload 4, 2) := by decide +kernel
theorem dX11_tellsFilter_122 : decode cX11_tellsFilter 122 = .ok (.lload 6, 2) := by decide +kernel
theorem dX11_tellsFilter_124 : decode cX11_tellsFilter 124 = .ok (.lcmp, 1) := by decide +kernel
theorem dX11_tellsFilter_125 : decode cX11_tellsFilter 125 = .ok (.ifCond .le 8, 3) := by decide +kernel
theorem dX11_tellsFilter_128 : decode cX11_tellsFilter 128 = .ok (.lload 6, 2) := by decide +kernel
theorem dX11_tellsFilter_130 : decode cX11_tellsFilter 130 = .ok (.goto 24, 3) := by decide +kernel
theorem dX11_tellsFilter_133 : decode cX11_tellsFilter 133 = .ok (.lload 4, 2) := by decide +kernel
theorem dX11_tellsFilter_135 : decode cX11_tellsFilter 135 = .ok (.iload_n 1, 1) := by decide +kernel
theorem dX11_tellsFilter_136 : decode cX11_tellsFilter 136 = .ok (.invokestatic 157, 3) := by decide +kernel
theorem dX11_tellsFilter_139 : decode cX11_tellsFilter 139 = .ok (.i2l, 1) := by decide +kernel
theorem dX11_tellsFilter_140 : decode cX11_tellsFilter 140 = .ok (.lcmp, 1) := by decide +kernel
theorem dX11_tellsFilter_141 : decode cX11_tellsFilter 141 = .ok (.ifCond .ge 11, 3) := by decide +kernel
theorem dX11_tellsFilter_144 : decode cX11_tellsFilter 144 = .ok (.iload_n 1, 1) := by decide +kernel
theorem dX11_tellsFilter_145 : decode cX11_tellsFilter 145 = .ok (.invokestatic 157, 3) := by decide +kernel
theorem dX11_tellsFilter_148 : decode cX11_tellsFilter 148 = .ok (.i2l, 1) := by decide +kernel
theorem dX11_tellsFilter_149 : decode cX11_tellsFilter 149 = .ok (.goto 5, 3) := by decide +kernel
theorem dX11_tellsFilter_152 : decode cX11_tellsFilter 152 = .ok (.lload 4, 2) := by decide +kernel
theorem dX11_tellsFilter_154 : decode cX11_tellsFilter 154 = .ok (.lstore 4, 2) := by decide +kernel
theorem dX11_tellsFilter_156 : decode cX11_tellsFilter 156 = .ok (.aload_n 0, 1) := by decide +kernel
theorem dX11_tellsFilter_157 : decode cX11_tellsFilter 157 = .ok (.getfield 17, 3) := by decide +kernel
theorem dX11_tellsFilter_160 : decode cX11_tellsFilter 160 = .ok (.iload_n 1, 1) := by decide +kernel
theorem dX11_tellsFilter_161 : decode cX11_tellsFilter 161 = .ok (.lload 4, 2) := by decide +kernel
theorem dX11_tellsFilter_163 : decode cX11_tellsFilter 163 = .ok (.l2i, 1) := by decide +kernel
theorem dX11_tellsFilter_164 : decode cX11_tellsFilter 164 = .ok (.iload_n 1, 1) := by decide +kernel
theorem dX11_tellsFilter_165 : decode cX11_tellsFilter 165 = .ok (.invokestatic 157, 3) := by decide +kernel
theorem dX11_tellsFilter_168 : decode cX11_tellsFilter 168 = .ok (.isub, 1) := by decide +kernel
theorem dX11_tellsFilter_169 : decode cX11_tellsFilter 169 = .ok (.iastore, 1) := by decide +kernel
theorem dX11_tellsFilter_170 : decode cX11_tellsFilter 170 = .ok (.iinc 1 1, 3) := by decide +kernel
theorem dX11_tellsFilter_173 : decode cX11_tellsFilter 173 = .ok (.goto (-171), 3) := by decide +kernel
theorem dX11_tellsFilter_176 : decode cX11_tellsFilter 176 = .ok (.return_, 1) := by decide +kernel
theorem dX11_makesG_0 : decode cX11_makesG 0 = .ok (.iconst 0, 1) := by decide +kernel
theorem dX11_makesG_1 : decode cX11_makesG 1 = .ok (.istore_n 1, 1) := by decide +kernel
theorem dX11_makesG_2 : decode cX11_makesG 2 = .ok (.iload_n 1, 1) := by decide +kernel
theorem dX11_makesG_3 : decode cX11_makesG 3 = .ok (.bipush 8, 2) := by decide +kernel
theorem dX11_makesG_5 : decode cX11_makesG 5 = .ok (.if_icmp .ge 64, 3) := by decide +kernel
theorem dX11_makesG_8 : decode cX11_makesG 8 = .ok (.aload_n 0, 1) := by decide +kernel
theorem dX11_makesG_9 : decode cX11_makesG 9 = .ok (.getfield 17, 3) := by decide +kernel
theorem dX11_makesG_12 : decode cX11_makesG 12 = .ok (.iload_n 1, 1) := by decide +kernel
theorem dX11_makesG_13 : decode cX11_makesG 13 = .ok (.iaload, 1) := by decide +kernel
theorem dX11_makesG_14 : decode cX11_makesG 14 = .ok (.iload_n 1, 1) := by decide +kernel
theorem dX11_makesG_15 : decode cX11_makesG 15 = .ok (.invokestatic 157, 3) := by decide +kernel
theorem dX11_makesG_18 : decode cX11_makesG 18 = .ok (.iadd, 1) := by decide +kernel
theorem dX11_makesG_19 : decode cX11_makesG 19 = .ok (.i2l, 1) := by decide +kernel
theorem dX11_makesG_20 : decode cX11_makesG 20 = .ok (.invokestatic 82, 3) := by decide +kernel
theorem dX11_makesG_23 : decode cX11_makesG 23 = .ok (.ldc2_w 160, 3) := by decide +kernel
theorem dX11_makesG_26 : decode cX11_makesG 26 = .ok (.lmul, 1) := by decide +kernel
theorem dX11_makesG_27 : decode cX11_makesG 27 = .ok (.ldc2_w 135, 3) := by decide +kernel
theorem dX11_makesG_30 : decode cX11_makesG 30 = .ok (.iload_n 1, 1) := by decide +kernel
theorem dX11_makesG_31 : decode cX11_makesG 31 = .ok (.invokestatic 152, 3) := by decide +kernel
theorem dX11_makesG_34 : decode cX11_makesG 34 = .ok (.i2l, 1) := by decide +kernel
theorem dX11_makesG_35 : decode cX11_makesG 35 = .ok (.lmul, 1) := by decide +kernel
theorem dX11_makesG_36 : decode cX11_makesG 36 = .ok (.lsub, 1) := by decide +kernel
theorem dX11_makesG_37 : decode cX11_makesG 37 = .ok (.invokestatic 82, 3) := by decide +kernel
theorem dX11_makesG_40 : decode cX11_makesG 40 = .ok (.lstore_n 2, 1) := by decide +kernel
theorem dX11_makesG_41 : decode cX11_makesG 41 = .ok (.aload_n 0, 1) := by decide +kernel
theorem dX11_makesG_42 : decode cX11_makesG 42 = .ok (.getfield 63, 3) := by decide +kernel
theorem dX11_makesG_45 : decode cX11_makesG 45 = .ok (.iload_n 1, 1) := by decide +kernel
theorem dX11_makesG_46 : decode cX11_makesG 46 = .ok (.ldc2_w 135, 3) := by decide +kernel
theorem dX11_makesG_49 : decode cX11_makesG 49 = .ok (.iload_n 1, 1) := by decide +kernel
theorem dX11_makesG_50 : decode cX11_makesG 50 = .ok (.invokestatic 162, 3) := by decide +kernel
theorem dX11_makesG_53 : decode cX11_makesG 53 = .ok (.i2l, 1) := by decide +kernel
theorem dX11_makesG_54 : decode cX11_makesG 54 = .ok (.lload_n 2, 1) := by decide +kernel
theorem dX11_makesG_55 : decode cX11_makesG 55 = .ok (.invokestatic 112, 3) := by decide +kernel
theorem dX11_makesG_58 : decode cX11_makesG 58 = .ok (.lmul, 1) := by decide +kernel
theorem dX11_makesG_59 : decode cX11_makesG 59 = .ok (.invokestatic 82, 3) := by decide +kernel
theorem dX11_makesG_62 : decode cX11_makesG 62 = .ok (.lastore, 1) := by decide +kernel
theorem dX11_makesG_63 : decode cX11_makesG 63 = .ok (.iinc 1 1, 3) := by decide +kernel
theorem dX11_makesG_66 : decode cX11_makesG 66 = .ok (.goto (-64), 3) := by decide +kernel
theorem dX11_makesG_69 : decode cX11_makesG 69 = .ok (.return_, 1) := by decide +kernel
theorem dX11_makesR_0 : decode cX11_makesR 0 = .ok (.iconst 0, 1) := by decide +kernel
theorem dX11_makesR_1 : decode cX11_makesR 1 = .ok (.istore_n 3, 1) := by decide +kernel
theorem dX11_makesR_2 : decode cX11_makesR 2 = .ok (.iload_n 3, 1) := by decide +kernel
theorem dX11_makesR_3 : decode cX11_makesR 3 = .ok (.bipush 8, 2) := by decide +kernel
theorem dX11_makesR_5 : decode cX11_makesR 5 = .ok (.if_icmp .ge 204, 3) := by decide +kernel
theorem dX11_makesR_8 : decode cX11_makesR 8 = .ok (.aload_n 0, 1) := by decide +kernel
theorem dX11_makesR_9 : decode cX11_makesR 9 = .ok (.getfield 23, 3) := by decide +kernel
theorem dX11_makesR_12 : decode cX11_makesR 12 = .ok (.iload_n 2, 1) := by decide +kernel
theorem dX11_makesR_13 : decode cX11_makesR 13 = .ok (.iload_n 3, 1) := by decide +kernel
theorem dX11_makesR_14 : decode cX11_makesR 14 = .ok (.iadd, 1) := by decide +kernel
theorem dX11_makesR_15 : decode cX11_makesR 15 = .ok (.laload, 1) := by decide +kernel
theorem dX11_makesR_16 : decode cX11_makesR 16 = .ok (.lstore 4, 2) := by decide +kernel
theorem dX11_makesR_18 : decode cX11_makesR 18 = .ok (.aload_n 0, 1) := by decide +kernel
theorem dX11_makesR_19 : decode cX11_makesR 19 = .ok (.getfield 63, 3) := by decide +kernel
theorem dX11_makesR_22 : decode cX11_makesR 22 = .ok (.iload_n 3, 1) := by decide +kernel
theorem dX11_makesR_23 : decode cX11_makesR 23 = .ok (.laload, 1) := by decide +kernel
theorem dX11_makesR_24 : decode cX11_makesR 24 = .ok (.lstore 6, 2) := by decide +kernel
theorem dX11_makesR_26 : decode cX11_makesR 26 = .ok (.iload_n 1, 1) := by decide +kernel
theorem dX11_makesR_27 : decode cX11_makesR 27 = .ok (.bipush 13, 2) := by decide +kernel
theorem dX11_makesR_29 : decode cX11_makesR 29 = .ok (.if_icmp .ge 32, 3) := by decide +kernel
theorem dX11_makesR_32 : decode cX11_makesR 32 = .ok (.lload 4, 2) := by decide +kernel
theorem dX11_makesR_34 : decode cX11_makesR 34 = .ok (.iconst 2, 1) := by decide +kernel
theorem dX11_makesR_35 : decode cX11_makesR 35 = .ok (.lshr, 1) := by decide +kernel
theorem dX11_makesR_36 : decode cX11_makesR 36 = .ok (.aload_n 0, 1) := by decide +kernel
theorem dX11_makesR_37 : decode cX11_makesR 37 = .ok (.getfield 63, 3) := by decide +kernel
theorem dX11_makesR_40 : decode cX11_makesR 40 = .ok (.iload_n 3, 1) := by decide +kernel
theorem dX11_makesR_41 : decode cX11_makesR 41 = .ok (.laload, 1) := by decide +kernel
theorem dX11_makesR_42 : decode cX11_makesR 42 = .ok (.iconst 2, 1) := by decide +kernel
theorem dX11_makesR_43 : decode cX11_makesR 43 = .ok (.lshr, 1) := by decide +kernel
theorem dX11_makesR_44 : decode cX11_makesR 44 = .ok (.ladd, 1) := by decide +kernel
theorem dX11_makesR_45 : decode cX11_makesR 45 = .ok (.invokestatic 82, 3) := by decide +kernel
theorem dX11_makesR_48 : decode cX11_makesR 48 = .ok (.lload 4, 2) := by decide +kernel
theorem dX11_makesR_50 : decode cX11_makesR 50 = .ok (.iconst 1, 1) := by decide +kernel
theorem dX11_makesR_51 : decode cX11_makesR 51 = .ok (.lshr, 1) := by decide +kernel
theorem dX11_makesR_52 : decode cX11_makesR 52 = .ok (.ladd, 1) := by decide +kernel
theorem dX11_makesR_53 : decode cX11_makesR 53 = .ok (.invokestatic 82, 3) := by decide +kernel
theorem dX11_makesR_56 : decode cX11_makesR 56 = .ok (.lstore 6, 2) := by decide +kernel
theorem dX11_makesR_58 : decode cX11_makesR 58 = .ok (.goto 66, 3) := by decide +kernel
theorem dX11_makesR_61 : decode cX11_makesR 61 = .ok (.iload_n 1, 1) := by decide +kernel
theorem dX11_makesR_62 : decode cX11_makesR 62 = .ok (.bipush 27, 2) := by decide +kernel
theorem dX11_makesR_64 : decode cX11_makesR 64 = .ok (.if_icmp .ge 24, 3) := by decide +kernel
theorem dX11_makesR_67 : decode cX11_makesR 67 = .ok (.lload 4, 2) := by decide +kernel
theorem dX11_makesR_69 : decode cX11_makesR 69 = .ok (.iconst 1, 1) := by decide +kernel
theorem dX11_makesR_70 : decode cX11_makesR 70 = .ok (.lshr, 1) := by decide +kernel
theorem dX11_makesR_71 : decode cX11_makesR 71 = .ok (.aload_n 0, 1) := by decide +kernel
theorem dX11_makesR_72 : decode cX11_makesR 72 = .ok (.getfield 63, 3) := by decide +kernel
theorem dX11_makesR_75 : decode cX11_makesR 75 = .ok (.iload_n 3, 1) := by decide +kernel
theorem dX11_makesR_76 : decode cX11_makesR 76 = .ok (.laload, 1) := by decide +kernel
theorem dX11_makesR_77 : decode cX11_makesR 77 = .ok (.iconst 1, 1) := by decide +kernel
theorem dX11_makesR_78 : decode cX11_makesR 78 = .ok (.lshr, 1) := by decide +kernel
theorem dX11_makesR_79 : decode cX11_makesR 79 = .ok (.ladd, 1) := by decide +kernel
theorem dX11_makesR_80 : decode cX11_makesR 80 = .ok (.invokestatic 82, 3) := by decide +kernel
theorem dX11_makesR_83 : decode cX11_makesR 83 = .ok (.lstore 6, 2) := by decide +kernel
theorem dX11_makesR_85 : decode cX11_makesR 85 = .ok (.goto 39, 3) := by decide +kernel
theorem dX11_makesR_88 : decode cX11_makesR 88 = .ok (.iload_n 1, 1) := by decide +kernel
theorem dX11_makesR_89 : decode cX11_makesR 89 = .ok (.bipush 40, 2) := by decide +kernel
theorem dX11_makesR_91 : decode cX11_makesR 91 = .ok (.if_icmp .ge 33, 3) := by decide +kernel
theorem dX11_makesR_94 : decode cX11_makesR 94 = .ok (.lload 4, 2) := by decide +kernel
theorem dX11_makesR_96 : decode cX11_makesR 96 = .ok (.iconst 2, 1) := by decide +kernel
theorem dX11_makesR_97 : decode cX11_makesR 97 = .ok (.lshr, 1) := by decide +kernel
theorem dX11_makesR_98 : decode cX11_makesR 98 = .ok (.aload_n 0, 1) := by decide +kernel
theorem dX11_makesR_99 : decode cX11_makesR 99 = .ok (.getfield 63, 3) := by decide +kernel
theorem dX11_makesR_102 : decode cX11_makesR 102 = .ok (.iload_n 3, 1) := by decide +kernel
theorem dX11_makesR_103 : decode cX11_makesR 103 = .ok (.laload, 1) := by decide +kernel
theorem dX11_makesR_104 : decode cX11_makesR 104 = .ok (.iconst 2, 1) := by decide +kernel
theorem dX11_makesR_105 : decode cX11_makesR 105 = .ok (.lshr, 1) := by decide +kernel
theorem dX11_makesR_106 : decode cX11_makesR 106 = .ok (.ladd, 1) := by decide +kernel
theorem dX11_makesR_107 : decode cX11_makesR 107 = .ok (.invokestatic 82, 3) := by decide +kernel
theorem dX11_makesR_110 : decode cX11_makesR 110 = .ok (.aload_n 0, 1) := by decide +kernel
theorem dX11_makesR_111 : decode cX11_makesR 111 = .ok (.getfield 63, 3) := by decide +kernel
theorem dX11_makesR_114 : decode cX11_makesR 114 = .ok (.iload_n 3, 1) := by decide +kernel
theorem dX11_makesR_115 : decode cX11_makesR 115 = .ok (.laload, 1) := by decide +kernel
theorem dX11_makesR_116 : decode cX11_makesR 116 = .ok (.iconst 1, 1) := by decide +kernel
theorem dX11_makesR_117 : decode cX11_makesR 117 = .ok (.lshr, 1) := by decide +kernel
theorem dX11_makesR_118 : decode cX11_makesR 118 = .ok (.ladd, 1) := by decide +kernel
theorem dX11_makesR_119 : decode cX11_makesR 119 = .ok (.invokestatic 82, 3) := by decide +kernel
theorem dX11_makesR_122 : decode cX11_makesR 122 = .ok (.lstore 6, 2) := by decide +kernel
theorem dX11_makesR_124 : decode cX11_makesR 124 = .ok (.lload 6, 2) := by decide +kernel
theorem dX11_makesR_126 : decode cX11_makesR 126 = .ok (.invokestatic 124, 3) := by decide +kernel
theorem dX11_makesR_129 : decode cX11_makesR 129 = .ok (.lstore 8, 2) := by decide +kernel
theorem dX11_makesR_131 : decode cX11_makesR 131 = .ok (.lload 8, 2) := by decide +kernel
theorem dX11_makesR_133 : decode cX11_makesR 133 = .ok (.ldc2_w 141, 3) := by decide +kernel
theorem dX11_makesR_136 : decode cX11_makesR 136 = .ok (.lcmp, 1) := by decide +kernel
theorem dX11_makesR_137 : decode cX11_makesR 137 = .ok (.ifCond .ge 12, 3) := by decide +kernel
theorem dX11_makesR_140 : decode cX11_makesR 140 = .ok (.ldc2_w 135, 3) := by decide +kernel
theorem dX11_makesR_143 : decode cX11_makesR 143 = .ok (.lload 8, 2) := by decide +kernel
theorem dX11_makesR_145 : decode cX11_makesR 145 = .ok (.lmul, 1) := by decide +kernel
theorem dX11_makesR_146 : decode cX11_makesR 146 = .ok (.goto 32, 3) := by decide +kernel
theorem dX11_makesR_149 : decode cX11_makesR 149 = .ok (.lload 8, 2) := by decide +kernel
theorem dX11_makesR_151 : decode cX11_makesR 151 = .ok (.ldc2_w 165, 3) := by decide +kernel
theorem dX11_makesR_154 : decode cX11_makesR 154 = .ok (.lcmp, 1) := by decide +kernel
theorem dX11_makesR_155 : decode cX11_makesR 155 = .ok (.ifCond .ge 12, 3) := by decide +kernel
theorem dX11_makesR_158 : decode cX11_makesR 158 = .ok (.lload 8, 2) := by decide +kernel
theorem dX11_makesR_160 : decode cX11_makesR 160 = .ok (.ldc2_w 141, 3) := by decide +kernel
theorem dX11_makesR_163 : decode cX11_makesR 163 = .ok (.ladd, 1) := by decide +kernel
theorem dX11_makesR_164 : decode cX11_makesR 164 = .ok (.goto 14, 3) := by decide +kernel
theorem dX11_makesR_167 : decode cX11_makesR 167 = .ok (.lload 8, 2) := by decide +kernel
theorem dX11_makesR_169 : decode cX11_makesR 169 = .ok (.iconst 2, 1) := by decide +kernel
theorem dX11_makesR_170 : decode cX11_makesR 170 = .ok (.lshr, 1) := by decide +kernel
theorem dX11_makesR_171 : decode cX11_makesR 171 = .ok (.ldc2_w 143, 3) := by decide +kernel
theorem dX11_makesR_174 : decode cX11_makesR 174 = .ok (.ladd, 1) := by decide +kernel
theorem dX11_makesR_175 : decode cX11_makesR 175 = .ok (.invokestatic 82, 3) := by decide +kernel
theorem dX11_makesR_178 : decode cX11_makesR 178 = .ok (.lstore 8, 2) := by decide +kernel
theorem dX11_makesR_180 : decode cX11_makesR 180 = .ok (.aload_n 0, 1) := by decide +kernel
theorem dX11_makesR_181 : decode cX11_makesR 181 = .ok (.getfield 60, 3) := by decide +kernel
theorem dX11_makesR_184 : decode cX11_makesR 184 = .ok (.iload_n 3, 1) := by decide +kernel
theorem dX11_makesR_185 : decode cX11_makesR 185 = .ok (.iconst 1, 1) := by decide +kernel
theorem dX11_makesR_186 : decode cX11_makesR 186 = .ok (.iadd, 1) := by decide +kernel
theorem dX11_makesR_187 : decode cX11_makesR 187 = .ok (.lload 6, 2) := by decide +kernel
theorem dX11_makesR_189 : decode cX11_makesR 189 = .ok (.lconst 0, 1) := by decide +kernel
theorem dX11_makesR_190 : decode cX11_makesR 190 = .ok (.lcmp, 1) := by decide +kernel
theorem dX11_makesR_191 : decode cX11_makesR 191 = .ok (.ifCond .ge 9, 3) := by decide +kernel
theorem dX11_makesR_194 : decode cX11_makesR 194 = .ok (.lload 8, 2) := by decide +kernel
theorem dX11_makesR_196 : decode cX11_makesR 196 = .ok (.lneg, 1) := by decide +kernel
theorem dX11_makesR_197 : decode cX11_makesR 197 = .ok (.goto 5, 3) := by decide +kernel
theorem dX11_makesR_200 : decode cX11_makesR 200 = .ok (.lload 8, 2) := by decide +kernel
theorem dX11_makesR_202 : decode cX11_makesR 202 = .ok (.lastore, 1) := by decide +kernel
theorem dX11_makesR_203 : decode cX11_makesR 203 = .ok (.iinc 3 1, 3) := by decide +kernel
theorem dX11_makesR_206 : decode cX11_makesR 206 = .ok (.goto (-204), 3) := by decide +kernel
theorem dX11_makesR_209 : decode cX11_makesR 209 = .ok (.return_, 1) := by decide +kernel
theorem dX11_keepsG_0 : decode cX11_keepsG 0 = .ok (.iconst 0, 1) := by decide +kernel
theorem dX11_keepsG_1 : decode cX11_keepsG 1 = .ok (.istore_n 2, 1) := by decide +kernel
theorem dX11_keepsG_2 : decode cX11_keepsG 2 = .ok (.iload_n 2, 1) := by decide +kernel
theorem dX11_keepsG_3 : decode cX11_keepsG 3 = .ok (.bipush 8, 2) := by decide +kernel
theorem dX11_keepsG_5 : decode cX11_keepsG 5 = .ok (.if_icmp .ge 23, 3) := by decide +kernel
theorem dX11_keepsG_8 : decode cX11_keepsG 8 = .ok (.aload_n 0, 1) := by decide +kernel
theorem dX11_keepsG_9 : decode cX11_keepsG 9 = .ok (.getfield 23, 3) := by decide +kernel
theorem dX11_keepsG_12 : decode cX11_keepsG 12 = .ok (.iload_n 1, 1) := by decide +kernel
theorem dX11_keepsG_13 : decode cX11_keepsG 13 = .ok (.iload_n 2, 1) := by decide +kernel
theorem dX11_keepsG_14 : decode cX11_keepsG 14 = .ok (.iadd, 1) := by decide +kernel
theorem dX11_keepsG_15 : decode cX11_keepsG 15 = .ok (.aload_n 0, 1) := by decide +kernel
theorem dX11_keepsG_16 : decode cX11_keepsG 16 = .ok (.getfield 63, 3) := by decide +kernel
theorem dX11_keepsG_19 : decode cX11_keepsG 19 = .ok (.iload_n 2, 1) := by decide +kernel
theorem dX11_keepsG_20 : decode cX11_keepsG 20 = .ok (.laload, 1) := by decide +kernel
theorem dX11_keepsG_21 : decode cX11_keepsG 21 = .ok (.lastore, 1) := by decide +kernel
theorem dX11_keepsG_22 : decode cX11_keepsG 22 = .ok (.iinc 2 1, 3) := by decide +kernel
theorem dX11_keepsG_25 : decode cX11_keepsG 25 = .ok (.goto (-23), 3) := by decide +kernel
theorem dX11_keepsG_28 : decode cX11_keepsG 28 = .ok (.return_, 1) := by decide +kernel
theorem dX11_leaves_0 : decode cX11_leaves 0 = .ok (.iconst 0, 1) := by decide +kernel
theorem dX11_leaves_1 : decode cX11_leaves 1 = .ok (.istore_n 1, 1) := by decide +kernel
theorem dX11_leaves_2 : decode cX11_leaves 2 = .ok (.iload_n 1, 1) := by decide +kernel
theorem dX11_leaves_3 : decode cX11_leaves 3 = .ok (.sipush 160, 3) := by decide +kernel
theorem dX11_leaves_6 : decode cX11_leaves 6 = .ok (.if_icmp .ge 130, 3) := by decide +kernel
theorem dX11_leaves_9 : decode cX11_leaves 9 = .ok (.iload_n 1, 1) := by decide +kernel
theorem dX11_leaves_10 : decode cX11_leaves 10 = .ok (.ifCond .eq 21, 3) := by decide +kernel
theorem dX11_leaves_13 : decode cX11_leaves 13 = .ok (.iload_n 1, 1) := by decide +kernel
theorem dX11_leaves_14 : decode cX11_leaves 14 = .ok (.bipush 13, 2) := by decide +kernel
theorem dX11_leaves_16 : decode cX11_leaves 16 = .ok (.if_icmp .eq 15, 3) := by decide +kernel
theorem dX11_leaves_19 : decode cX11_leaves 19 = .ok (.iload_n 1, 1) := by decide +kernel
theorem dX11_leaves_20 : decode cX11_leaves 20 = .ok (.bipush 27, 2) := by decide +kernel
theorem dX11_leaves_22 : decode cX11_leaves 22 = .ok (.if_icmp .eq 9, 3) := by decide +kernel
theorem dX11_leaves_25 : decode cX11_leaves 25 = .ok (.iload_n 1, 1) := by decide +kernel
theorem dX11_leaves_26 : decode cX11_leaves 26 = .ok (.bipush 40, 2) := by decide +kernel
theorem dX11_leaves_28 : decode cX11_leaves 28 = .ok (.if_icmp .ne 9, 3) := by decide +kernel
theorem dX11_leaves_31 : decode cX11_leaves 31 = .ok (.aload_n 0, 1) := by decide +kernel
theorem dX11_leaves_32 : decode cX11_leaves 32 = .ok (.iload_n 1, 1) := by decide +kernel
theorem dX11_leaves_33 : decode cX11_leaves 33 = .ok (.iconst 0, 1) := by decide +kernel
theorem dX11_leaves_34 : decode cX11_leaves 34 = .ok (.invokevirtual 167, 3) := by decide +kernel
theorem dX11_leaves_37 : decode cX11_leaves 37 = .ok (.aload_n 0, 1) := by decide +kernel
theorem dX11_leaves_38 : decode cX11_leaves 38 = .ok (.getfield 39, 3) := by decide +kernel
theorem dX11_leaves_41 : decode cX11_leaves 41 = .ok (.iload_n 1, 1) := by decide +kernel
theorem dX11_leaves_42 : decode cX11_leaves 42 = .ok (.laload, 1) := by decide +kernel
theorem dX11_leaves_43 : decode cX11_leaves 43 = .ok (.lstore_n 2, 1) := by decide +kernel
theorem dX11_leaves_44 : decode cX11_leaves 44 = .ok (.aload_n 0, 1) := by decide +kernel
theorem dX11_leaves_45 : decode cX11_leaves 45 = .ok (.getfield 39, 3) := by decide +kernel
theorem dX11_leaves_48 : decode cX11_leaves 48 = .ok (.iload_n 1, 1) := by decide +kernel
theorem dX11_leaves_49 : decode cX11_leaves 49 = .ok (.laload, 1) := by decide +kernel
theorem dX11_leaves_50 : decode cX11_leaves 50 = .ok (.lstore 4, 2) := by decide +kernel
theorem dX11_leaves_52 : decode cX11_leaves 52 = .ok (.iconst 1, 1) := by decide +kernel
theorem dX11_leaves_53 : decode cX11_leaves 53 = .ok (.istore 6, 2) := by decide +kernel
theorem dX11_leaves_55 : decode cX11_leaves 55 = .ok (.iload 6, 2) := by decide +kernel
theorem dX11_leaves_57 : decode cX11_leaves 57 = .ok (.bipush 9, 2) := by decide +kernel
theorem dX11_leaves_59 : decode cX11_leaves 59 = .ok (.if_icmp .ge 64, 3) := by decide +kernel
theorem dX11_leaves_62 : decode cX11_leaves 62 = .ok (.aload_n 0, 1) := by decide +kernel
theorem dX11_leaves_63 : decode cX11_leaves 63 = .ok (.getfield 26, 3) := by decide +kernel
theorem dX11_leaves_66 : decode cX11_leaves 66 = .ok (.iload 6, 2) := by decide +kernel
theorem dX11_leaves_68 : decode cX11_leaves 68 = .ok (.laload, 1) := by decide +kernel
theorem dX11_leaves_69 : decode cX11_leaves 69 = .ok (.lstore 7, 2) := by decide +kernel
theorem dX11_leaves_71 : decode cX11_leaves 71 = .ok (.aload_n 0, 1) := by decide +kernel
theorem dX11_leaves_72 : decode cX11_leaves 72 = .ok (.getfield 26, 3) := by decide +kernel
theorem dX11_leaves_75 : decode cX11_leaves 75 = .ok (.iload 6, 2) := by decide +kernel
theorem dX11_leaves_77 : decode cX11_leaves 77 = .ok (.lload 4, 2) := by decide +kernel
theorem dX11_leaves_79 : decode cX11_leaves 79 = .ok (.lastore, 1) := by decide +kernel
theorem dX11_leaves_80 : decode cX11_leaves 80 = .ok (.lload 7, 2) := by decide +kernel
theorem dX11_leaves_82 : decode cX11_leaves 82 = .ok (.aload_n 0, 1) := by decide +kernel
theorem dX11_leaves_83 : decode cX11_leaves 83 = .ok (.getfield 60, 3) := by decide +kernel
theorem dX11_leaves_86 : decode cX11_leaves 86 = .ok (.iload 6, 2) := by decide +kernel
theorem dX11_leaves_88 : decode cX11_leaves 88 = .ok (.laload, 1) := by decide +kernel
theorem dX11_leaves_89 : decode cX11_leaves 89 = .ok (.lload_n 2, 1) := by decide +kernel
theorem dX11_leaves_90 : decode cX11_leaves 90 = .ok (.invokestatic 112, 3) := by decide +kernel
theorem dX11_leaves_93 : decode cX11_leaves 93 = .ok (.ladd, 1) := by decide +kernel
theorem dX11_leaves_94 : decode cX11_leaves 94 = .ok (.invokestatic 82, 3) := by decide +kernel
theorem dX11_leaves_97 : decode cX11_leaves 97 = .ok (.lstore 4, 2) := by decide +kernel
theorem dX11_leaves_99 : decode cX11_leaves 99 = .ok (.lload_n 2, 1) := by decide +kernel
theorem dX11_leaves_100 : decode cX11_leaves 100 = .ok (.aload_n 0, 1) := by decide +kernel
theorem dX11_leaves_101 : decode cX11_leaves 101 = .ok (.getfield 60, 3) := by decide +kernel
theorem dX11_leaves_104 : decode cX11_leaves 104 = .ok (.iload 6, 2) := by decide +kernel
theorem dX11_leaves_106 : decode cX11_leaves 106 = .ok (.laload, 1) := by decide +kernel
theorem dX11_leaves_107 : decode cX11_leaves 107 = .ok (.lload 7, 2) := by decide +kernel
theorem dX11_leaves_109 : decode cX11_leaves 109 = .ok (.invokestatic 112, 3) := by decide +kernel
theorem dX11_leaves_112 : decode cX11_leaves 112 = .ok (.ladd, 1) := by decide +kernel
theorem dX11_leaves_113 : decode cX11_leaves 113 = .ok (.invokestatic 82, 3) := by decide +kernel
theorem dX11_leaves_116 : decode cX11_leaves 116 = .ok (.lstore_n 2, 1) := by decide +kernel
theorem dX11_leaves_117 : decode cX11_leaves 117 = .ok (.iinc 6 1, 3) := by decide +kernel
theorem dX11_leaves_120 : decode cX11_leaves 120 = .ok (.goto (-65), 3) := by decide +kernel
theorem dX11_leaves_123 : decode cX11_leaves 123 = .ok (.aload_n 0, 1) := by decide +kernel
theorem dX11_leaves_124 : decode cX11_leaves 124 = .ok (.getfield 42, 3) := by decide +kernel
theorem dX11_leaves_127 : decode cX11_leaves 127 = .ok (.iload_n 1, 1) := by decide +kernel
theorem dX11_leaves_128 : decode cX11_leaves 128 = .ok (.lload_n 2, 1) := by decide +kernel
theorem dX11_leaves_129 : decode cX11_leaves 129 = .ok (.lastore, 1) := by decide +kernel
theorem dX11_leaves_130 : decode cX11_leaves 130 = .ok (.iinc 1 1, 3) := by decide +kernel
theorem dX11_leaves_133 : decode cX11_leaves 133 = .ok (.goto (-131), 3) := by decide +kernel
theorem dX11_leaves_136 : decode cX11_leaves 136 = .ok (.return_, 1) := by decide +kernel
theorem dX11_looksBack_0 : decode cX11_looksBack 0 = .ok (.aload_n 0, 1) := by decide +kernel
theorem dX11_looksBack_1 : decode cX11_looksBack 1 = .ok (.getfield 42, 3) := by decide +kernel
theorem dX11_looksBack_4 : decode cX11_looksBack 4 = .ok (.bipush 40, 2) := by decide +kernel
theorem dX11_looksBack_6 : decode cX11_looksBack 6 = .ok (.iload_n 1, 1) := by decide +kernel
theorem dX11_looksBack_7 : decode cX11_looksBack 7 = .ok (.imul, 1) := by decide +kernel
theorem dX11_looksBack_8 : decode cX11_looksBack 8 = .ok (.bipush 40, 2) := by decide +kernel
theorem dX11_looksBack_10 : decode cX11_looksBack 10 = .ok (.invokestatic 127, 3) := by decide +kernel
theorem dX11_looksBack_13 : decode cX11_looksBack 13 = .ok (.lstore_n 3, 1) := by decide +kernel
theorem dX11_looksBack_14 : decode cX11_looksBack 14 = .ok (.lload_n 3, 1) := by decide +kernel
theorem dX11_looksBack_15 : decode cX11_looksBack 15 = .ok (.lconst 0, 1) := by decide +kernel
theorem dX11_looksBack_16 : decode cX11_looksBack 16 = .ok (.lcmp, 1) := by decide +kernel
theorem dX11_looksBack_17 : decode cX11_looksBack 17 = .ok (.ifCond .eq 16, 3) := by decide +kernel
theorem dX11_looksBack_20 : decode cX11_looksBack 20 = .ok (.lload_n 3, 1) := by decide +kernel
theorem dX11_looksBack_21 : decode cX11_looksBack 21 = .ok (.ldc2_w 97, 3) := by decide +kernel
theorem dX11_looksBack_24 : decode cX11_looksBack 24 = .ok (.lmul, 1) := by decide +kernel
theorem dX11_looksBack_25 : decode cX11_looksBack 25 = .ok (.invokestatic 131, 3) := by decide +kernel
theorem dX11_looksBack_28 : decode cX11_looksBack 28 = .ok (.bipush 6, 2) := by decide +kernel
theorem dX11_looksBack_30 : decode cX11_looksBack 30 = .ok (.if_icmp .le 7, 3) := by decide +kernel
theorem dX11_looksBack_33 : decode cX11_looksBack 33 = .ok (.iconst 0, 1) := by decide +kernel
theorem dX11_looksBack_34 : decode cX11_looksBack 34 = .ok (.goto 14, 3) := by decide +kernel
theorem dX11_looksBack_37 : decode cX11_looksBack 37 = .ok (.bipush 6, 2) := by decide +kernel
theorem dX11_looksBack_39 : decode cX11_looksBack 39 = .ok (.lload_n 3, 1) := by decide +kernel
theorem dX11_looksBack_40 : decode cX11_looksBack 40 = .ok (.ldc2_w 97, 3) := by decide +kernel
theorem dX11_looksBack_43 : decode cX11_looksBack 43 = .ok (.lmul, 1) := by decide +kernel
theorem dX11_looksBack_44 : decode cX11_looksBack 44 = .ok (.invokestatic 131, 3) := by decide +kernel
theorem dX11_looksBack_47 : decode cX11_looksBack 47 = .ok (.isub, 1) := by decide +kernel
theorem dX11_looksBack_48 : decode cX11_looksBack 48 = .ok (.istore 5, 2) := by decide +kernel
theorem dX11_looksBack_50 : decode cX11_looksBack 50 = .ok (.bipush 40, 2) := by decide +kernel
theorem dX11_looksBack_52 : decode cX11_looksBack 52 = .ok (.istore 6, 2) := by decide +kernel
theorem dX11_looksBack_54 : decode cX11_looksBack 54 = .ok (.lconst 0, 1) := by decide +kernel
theorem dX11_looksBack_55 : decode cX11_looksBack 55 = .ok (.lstore 7, 2) := by decide +kernel
theorem dX11_looksBack_57 : decode cX11_looksBack 57 = .ok (.bipush 40, 2) := by decide +kernel
theorem dX11_looksBack_59 : decode cX11_looksBack 59 = .ok (.istore 9, 2) := by decide +kernel
theorem dX11_looksBack_61 : decode cX11_looksBack 61 = .ok (.iload 9, 2) := by decide +kernel
theorem dX11_looksBack_63 : decode cX11_looksBack 63 = .ok (.bipush 121, 2) := by decide +kernel
theorem dX11_looksBack_65 : decode cX11_looksBack 65 = .ok (.if_icmp .ge 77, 3) := by decide +kernel
theorem dX11_looksBack_68 : decode cX11_looksBack 68 = .ok (.lconst 0, 1) := by decide +kernel
theorem dX11_looksBack_69 : decode cX11_looksBack 69 = .ok (.lstore 10, 2) := by decide +kernel
theorem dX11_looksBack_71 : decode cX11_looksBack 71 = .ok (.iconst 0, 1) := by decide +kernel
theorem dX11_looksBack_72 : decode cX11_looksBack 72 = .ok (.istore 12, 2) := by decide +kernel
theorem dX11_looksBack_74 : decode cX11_looksBack 74 = .ok (.iload 12, 2) := by decide +kernel
theorem dX11_looksBack_76 : decode cX11_looksBack 76 = .ok (.bipush 40, 2) := by decide +kernel
theorem dX11_looksBack_78 : decode cX11_looksBack 78 = .ok (.if_icmp .ge 42, 3) := by decide +kernel
theorem dX11_looksBack_81 : decode cX11_looksBack 81 = .ok (.lload 10, 2) := by decide +kernel
theorem dX11_looksBack_83 : decode cX11_looksBack 83 = .ok (.aload_n 0, 1) := by decide +kernel
theorem dX11_looksBack_84 : decode cX11_looksBack 84 = .ok (.getfield 42, 3) := by decide +kernel
theorem dX11_looksBack_87 : decode cX11_looksBack 87 = .ok (.bipush 40, 2) := by decide +kernel
theorem dX11_looksBack_89 : decode cX11_looksBack 89 = .ok (.iload_n 1, 1) := by decide +kernel
theorem dX11_looksBack_90 : decode cX11_looksBack 90 = .ok (.imul, 1) := by decide +kernel
theorem dX11_looksBack_91 : decode cX11_looksBack 91 = .ok (.iload 12, 2) := by decide +kernel
theorem dX11_looksBack_93 : decode cX11_looksBack 93 = .ok (.iadd, 1) := by decide +kernel
theorem dX11_looksBack_94 : decode cX11_looksBack 94 = .ok (.laload, 1) := by decide +kernel
theorem dX11_looksBack_95 : decode cX11_looksBack 95 = .ok (.iload 5, 2) := by decide +kernel
theorem dX11_looksBack_97 : decode cX11_looksBack 97 = .ok (.lshr, 1) := by decide +kernel
theorem dX11_looksBack_98 : decode cX11_looksBack 98 = .ok (.aload_n 0, 1) := by decide +kernel
theorem dX11_looksBack_99 : decode cX11_looksBack 99 = .ok (.getfield 32, 3) := by decide +kernel
theorem dX11_looksBack_102 : decode cX11_looksBack 102 = .ok (.iload_n 2, 1) := by decide +kernel
theorem dX11_looksBack_103 : decode cX11_looksBack 103 = .ok (.iload 12, 2) := by decide +kernel
theorem dX11_looksBack_105 : decode cX11_looksBack 105 = .ok (.iadd, 1) := by decide +kernel
theorem dX11_looksBack_106 : decode cX11_looksBack 106 = .ok (.iload 9, 2) := by decide +kernel
theorem dX11_looksBack_108 : decode cX11_looksBack 108 = .ok (.isub, 1) := by decide +kernel
theorem dX11_looksBack_109 : decode cX11_looksBack 109 = .ok (.laload, 1) := by decide +kernel
theorem dX11_looksBack_110 : decode cX11_looksBack 110 = .ok (.lmul, 1) := by decide +kernel
theorem dX11_looksBack_111 : decode cX11_looksBack 111 = .ok (.ladd, 1) := by decide +kernel
theorem dX11_looksBack_112 : decode cX11_looksBack 112 = .ok (.lstore 10, 2) := by decide +kernel
theorem dX11_looksBack_114 : decode cX11_looksBack 114 = .ok (.iinc 12 1, 3) := by decide +kernel
theorem dX11_looksBack_117 : decode cX11_looksBack 117 = .ok (.goto (-43), 3) := by decide +kernel
theorem dX11_looksBack_120 : decode cX11_looksBack 120 = .ok (.lload 10, 2) := by decide +kernel
theorem dX11_looksBack_122 : decode cX11_looksBack 122 = .ok (.lload 7, 2) := by decide +kernel
theorem dX11_looksBack_124 : decode cX11_looksBack 124 = .ok (.lcmp, 1) := by decide +kernel
theorem dX11_looksBack_125 : decode cX11_looksBack 125 = .ok (.ifCond .le 11, 3) := by decide +kernel
theorem dX11_looksBack_128 : decode cX11_looksBack 128 = .ok (.lload 10, 2) := by decide +kernel
theorem dX11_looksBack_130 : decode cX11_looksBack 130 = .ok (.lstore 7, 2) := by decide +kernel
theorem dX11_looksBack_132 : decode cX11_looksBack 132 = .ok (.iload 9, 2) := by decide +kernel
theorem dX11_looksBack_134 : decode cX11_looksBack 134 = .ok (.istore 6, 2) := by decide +kernel
theorem dX11_looksBack_136 : decode cX11_looksBack 136 = .ok (.iinc 9 1, 3) := by decide +kernel
theorem dX11_looksBack_139 : decode cX11_looksBack 139 = .ok (.goto (-78), 3) := by decide +kernel
theorem dX11_looksBack_142 : decode cX11_looksBack 142 = .ok (.ldc2_w 135, 3) := by decide +kernel
theorem dX11_looksBack_145 : decode cX11_looksBack 145 = .ok (.lload 7, 2) := by decide +kernel
theorem dX11_looksBack_147 : decode cX11_looksBack 147 = .ok (.lmul, 1) := by decide +kernel
theorem dX11_looksBack_148 : decode cX11_looksBack 148 = .ok (.bipush 6, 2) := by decide +kernel
theorem dX11_looksBack_150 : decode cX11_looksBack 150 = .ok (.iload 5, 2) := by decide +kernel
theorem dX11_looksBack_152 : decode cX11_looksBack 152 = .ok (.isub, 1) := by decide +kernel
theorem dX11_looksBack_153 : decode cX11_looksBack 153 = .ok (.lshr, 1) := by decide +kernel
theorem dX11_looksBack_154 : decode cX11_looksBack 154 = .ok (.lstore 9, 2) := by decide +kernel
theorem dX11_looksBack_156 : decode cX11_looksBack 156 = .ok (.lconst 0, 1) := by decide +kernel
theorem dX11_looksBack_157 : decode cX11_looksBack 157 = .ok (.lstore 11, 2) := by decide +kernel
theorem dX11_looksBack_159 : decode cX11_looksBack 159 = .ok (.iconst 0, 1) := by decide +kernel
theorem dX11_looksBack_160 : decode cX11_looksBack 160 = .ok (.istore 13, 2) := by decide +kernel
theorem dX11_looksBack_162 : decode cX11_looksBack 162 = .ok (.iload 13, 2) := by decide +kernel
theorem dX11_looksBack_164 : decode cX11_looksBack 164 = .ok (.bipush 40, 2) := by decide +kernel
theorem dX11_looksBack_166 : decode cX11_looksBack 166 = .ok (.if_icmp .ge 47, 3) := by decide +kernel
theorem dX11_looksBack_169 : decode cX11_looksBack 169 = .ok (.lload 11, 2) := by decide +kernel
theorem dX11_looksBack_171 : decode cX11_looksBack 171 = .ok (.ldc2_w 135, 3) := by decide +kernel
theorem dX11_looksBack_174 : decode cX11_looksBack 174 = .ok (.aload_n 0, 1) := by decide +kernel
theorem dX11_looksBack_175 : decode cX11_looksBack 175 = .ok (.getfield 32, 3) := by decide +kernel
theorem dX11_looksBack_178 : decode cX11_looksBack 178 = .ok (.iload_n 2, 1) := by decide +kernel
theorem dX11_looksBack_179 : decode cX11_looksBack 179 = .ok (.iload 13, 2) := by decide +kernel
theorem dX11_looksBack_181 : decode cX11_looksBack 181 = .ok (.iadd, 1) := by decide +kernel
theorem dX11_looksBack_182 : decode cX11_looksBack 182 = .ok (.iload 6, 2) := by decide +kernel
theorem dX11_looksBack_184 : decode cX11_looksBack 184 = .ok (.isub, 1) := by decide +kernel
theorem dX11_looksBack_185 : decode cX11_looksBack 185 = .ok (.laload, 1) := by decide +kernel
theorem dX11_looksBack_186 : decode cX11_looksBack 186 = .ok (.iconst 3, 1) := by decide +kernel
theorem dX11_looksBack_187 : decode cX11_looksBack 187 = .ok (.lshr, 1) := by decide +kernel
theorem dX11_looksBack_188 : decode cX11_looksBack 188 = .ok (.lmul, 1) := by decide +kernel
theorem dX11_looksBack_189 : decode cX11_looksBack 189 = .ok (.aload_n 0, 1) := by decide +kernel
theorem dX11_looksBack_190 : decode cX11_looksBack 190 = .ok (.getfield 32, 3) := by decide +kernel
theorem dX11_looksBack_193 : decode cX11_looksBack 193 = .ok (.iload_n 2, 1) := by decide +kernel
theorem dX11_looksBack_194 : decode cX11_looksBack 194 = .ok (.iload 13, 2) := by decide +kernel
theorem dX11_looksBack_196 : decode cX11_looksBack 196 = .ok (.iadd, 1) := by decide +kernel
theorem dX11_looksBack_197 : decode cX11_looksBack 197 = .ok (.iload 6, 2) := by decide +kernel
theorem dX11_looksBack_199 : decode cX11_looksBack 199 = .ok (.isub, 1) := by decide +kernel
theorem dX11_looksBack_200 : decode cX11_looksBack 200 = .ok (.laload, 1) := by decide +kernel
theorem dX11_looksBack_201 : decode cX11_looksBack 201 = .ok (.iconst 3, 1) := by decide +kernel
theorem dX11_looksBack_202 : decode cX11_looksBack 202 = .ok (.lshr, 1) := by decide +kernel
theorem dX11_looksBack_203 : decode cX11_looksBack 203 = .ok (.lmul, 1) := by decide +kernel
theorem dX11_looksBack_204 : decode cX11_looksBack 204 = .ok (.ladd, 1) := by decide +kernel
theorem dX11_looksBack_205 : decode cX11_looksBack 205 = .ok (.lstore 11, 2) := by decide +kernel
theorem dX11_looksBack_207 : decode cX11_looksBack 207 = .ok (.iinc 13 1, 3) := by decide +kernel
theorem dX11_looksBack_210 : decode cX11_looksBack 210 = .ok (.goto (-48), 3) := by decide +kernel
theorem dX11_looksBack_213 : decode cX11_looksBack 213 = .ok (.iconst 3, 1) := by decide +kernel
theorem dX11_looksBack_214 : decode cX11_looksBack 214 = .ok (.istore 13, 2) := by decide +kernel
theorem dX11_looksBack_216 : decode cX11_looksBack 216 = .ok (.lload 9, 2) := by decide +kernel
theorem dX11_looksBack_218 : decode cX11_looksBack 218 = .ok (.lconst 0, 1) := by decide +kernel
theorem dX11_looksBack_219 : decode cX11_looksBack 219 = .ok (.lcmp, 1) := by decide +kernel
theorem dX11_looksBack_220 : decode cX11_looksBack 220 = .ok (.ifCond .ne 9, 3) := by decide +kernel
theorem dX11_looksBack_223 : decode cX11_looksBack 223 = .ok (.iconst 0, 1) := by decide +kernel
theorem dX11_looksBack_224 : decode cX11_looksBack 224 = .ok (.istore 13, 2) := by decide +kernel
theorem dX11_looksBack_226 : decode cX11_looksBack 226 = .ok (.goto 62, 3) := by decide +kernel
theorem dX11_looksBack_229 : decode cX11_looksBack 229 = .ok (.lload 9, 2) := by decide +kernel
theorem dX11_looksBack_231 : decode cX11_looksBack 231 = .ok (.lload 11, 2) := by decide +kernel
theorem dX11_looksBack_233 : decode cX11_looksBack 233 = .ok (.lcmp, 1) := by decide +kernel
theorem dX11_looksBack_234 : decode cX11_looksBack 234 = .ok (.ifCond .ge 54, 3) := by decide +kernel
theorem dX11_looksBack_237 : decode cX11_looksBack 237 = .ok (.lload 11, 2) := by decide +kernel
theorem dX11_looksBack_239 : decode cX11_looksBack 239 = .ok (.invokestatic 131, 3) := by decide +kernel
theorem dX11_looksBack_242 : decode cX11_looksBack 242 = .ok (.istore 14, 2) := by decide +kernel
theorem dX11_looksBack_244 : decode cX11_looksBack 244 = .ok (.iconst 0, 1) := by decide +kernel
theorem dX11_looksBack_245 : decode cX11_looksBack 245 = .ok (.istore 13, 2) := by decide +kernel
theorem dX11_looksBack_247 : decode cX11_looksBack 247 = .ok (.iload 13, 2) := by decide +kernel
theorem dX11_looksBack_249 : decode cX11_looksBack 249 = .ok (.iconst 3, 1) := by decide +kernel
theorem dX11_looksBack_250 : decode cX11_looksBack 250 = .ok (.if_icmp .ge 38, 3) := by decide +kernel
theorem dX11_looksBack_253 : decode cX11_looksBack 253 = .ok (.lload 9, 2) := by decide +kernel
theorem dX11_looksBack_255 : decode cX11_looksBack 255 = .ok (.iload 14, 2) := by decide +kernel
theorem dX11_looksBack_257 : decode cX11_looksBack 257 = .ok (.lshl, 1) := by decide +kernel
theorem dX11_looksBack_258 : decode cX11_looksBack 258 = .ok (.bipush 16, 2) := by decide +kernel
theorem dX11_looksBack_260 : decode cX11_looksBack 260 = .ok (.lshr, 1) := by decide +kernel
theorem dX11_looksBack_261 : decode cX11_looksBack 261 = .ok (.lload 11, 2) := by decide +kernel
theorem dX11_looksBack_263 : decode cX11_looksBack 263 = .ok (.iload 14, 2) := by decide +kernel
theorem dX11_looksBack_265 : decode cX11_looksBack 265 = .ok (.lshl, 1) := by decide +kernel
theorem dX11_looksBack_266 : decode cX11_looksBack 266 = .ok (.bipush 16, 2) := by decide +kernel
theorem dX11_looksBack_268 : decode cX11_looksBack 268 = .ok (.lshr, 1) := by decide +kernel
theorem dX11_looksBack_269 : decode cX11_looksBack 269 = .ok (.iload 13, 2) := by decide +kernel
theorem dX11_looksBack_271 : decode cX11_looksBack 271 = .ok (.invokestatic 171, 3) := by decide +kernel
theorem dX11_looksBack_274 : decode cX11_looksBack 274 = .ok (.i2l, 1) := by decide +kernel
theorem dX11_looksBack_275 : decode cX11_looksBack 275 = .ok (.invokestatic 149, 3) := by decide +kernel
theorem dX11_looksBack_278 : decode cX11_looksBack 278 = .ok (.lcmp, 1) := by decide +kernel
theorem dX11_looksBack_279 : decode cX11_looksBack 279 = .ok (.ifCond .le 9, 3) := by decide +kernel
theorem dX11_looksBack_282 : decode cX11_looksBack 282 = .ok (.iinc 13 1, 3) := by decide +kernel
theorem dX11_looksBack_285 : decode cX11_looksBack 285 = .ok (.goto (-38), 3) := by decide +kernel
theorem dX11_looksBack_288 : decode cX11_looksBack 288 = .ok (.aload_n 0, 1) := by decide +kernel
theorem dX11_looksBack_289 : decode cX11_looksBack 289 = .ok (.getfield 17, 3) := by decide +kernel
theorem dX11_looksBack_292 : decode cX11_looksBack 292 = .ok (.bipush 8, 2) := by decide +kernel
theorem dX11_looksBack_294 : decode cX11_looksBack 294 = .ok (.bipush 17, 2) := by decide +kernel
theorem dX11_looksBack_296 : decode cX11_looksBack 296 = .ok (.iload_n 1, 1) := by decide +kernel
theorem dX11_looksBack_297 : decode cX11_looksBack 297 = .ok (.imul, 1) := by decide +kernel
theorem dX11_looksBack_298 : decode cX11_looksBack 298 = .ok (.iadd, 1) := by decide +kernel
theorem dX11_looksBack_299 : decode cX11_looksBack 299 = .ok (.iload 6, 2) := by decide +kernel
theorem dX11_looksBack_301 : decode cX11_looksBack 301 = .ok (.iastore, 1) := by decide +kernel
theorem dX11_looksBack_302 : decode cX11_looksBack 302 = .ok (.aload_n 0, 1) := by decide +kernel
theorem dX11_looksBack_303 : decode cX11_looksBack 303 = .ok (.getfield 17, 3) := by decide +kernel
theorem dX11_looksBack_306 : decode cX11_looksBack 306 = .ok (.bipush 9, 2) := by decide +kernel
theorem dX11_looksBack_308 : decode cX11_looksBack 308 = .ok (.bipush 17, 2) := by decide +kernel
theorem dX11_looksBack_310 : decode cX11_looksBack 310 = .ok (.iload_n 1, 1) := by decide +kernel
theorem dX11_looksBack_311 : decode cX11_looksBack 311 = .ok (.imul, 1) := by decide +kernel
theorem dX11_looksBack_312 : decode cX11_looksBack 312 = .ok (.iadd, 1) := by decide +kernel
theorem dX11_looksBack_313 : decode cX11_looksBack 313 = .ok (.iload 13, 2) := by decide +kernel
theorem dX11_looksBack_315 : decode cX11_looksBack 315 = .ok (.iastore, 1) := by decide +kernel
theorem dX11_looksBack_316 : decode cX11_looksBack 316 = .ok (.return_, 1) := by decide +kernel
theorem dX11_filters_0 : decode cX11_filters 0 = .ok (.iconst 0, 1) := by decide +kernel
theorem dX11_filters_1 : decode cX11_filters 1 = .ok (.istore_n 1, 1) := by decide +kernel
theorem dX11_filters_2 : decode cX11_filters 2 = .ok (.iload_n 1, 1) := by decide +kernel
theorem dX11_filters_3 : decode cX11_filters 3 = .ok (.bipush 40, 2) := by decide +kernel
theorem dX11_filters_5 : decode cX11_filters 5 = .ok (.if_icmp .ge 83, 3) := by decide +kernel
theorem dX11_filters_8 : decode cX11_filters 8 = .ok (.ldc2_w 174, 3) := by decide +kernel
theorem dX11_filters_11 : decode cX11_filters 11 = .ok (.lstore_n 2, 1) := by decide +kernel
theorem dX11_filters_12 : decode cX11_filters 12 = .ok (.iconst 0, 1) := by decide +kernel
theorem dX11_filters_13 : decode cX11_filters 13 = .ok (.istore 4, 2) := by decide +kernel
theorem dX11_filters_15 : decode cX11_filters 15 = .ok (.iload 4, 2) := by decide +kernel
theorem dX11_filters_17 : decode cX11_filters 17 = .ok (.bipush 11, 2) := by decide +kernel
theorem dX11_filters_19 : decode cX11_filters 19 = .ok (.if_icmp .ge 50, 3) := by decide +kernel
theorem dX11_filters_22 : decode cX11_filters 22 = .ok (.iload_n 1, 1) := by decide +kernel
theorem dX11_filters_23 : decode cX11_filters 23 = .ok (.iload 4, 2) := by decide +kernel
theorem dX11_filters_25 : decode cX11_filters 25 = .ok (.iadd, 1) := by decide +kernel
theorem dX11_filters_26 : decode cX11_filters 26 = .ok (.iconst 5, 1) := by decide +kernel
theorem dX11_filters_27 : decode cX11_filters 27 = .ok (.isub, 1) := by decide +kernel
theorem dX11_filters_28 : decode cX11_filters 28 = .ok (.istore 5, 2) := by decide +kernel
theorem dX11_filters_30 : decode cX11_filters 30 = .ok (.lload_n 2, 1) := by decide +kernel
theorem dX11_filters_31 : decode cX11_filters 31 = .ok (.iload 5, 2) := by decide +kernel
theorem dX11_filters_33 : decode cX11_filters 33 = .ok (.ifCond .lt 10, 3) := by decide +kernel
theorem dX11_filters_36 : decode cX11_filters 36 = .ok (.iload 5, 2) := by decide +kernel
theorem dX11_filters_38 : decode cX11_filters 38 = .ok (.bipush 40, 2) := by decide +kernel
theorem dX11_filters_40 : decode cX11_filters 40 = .ok (.if_icmp .lt 7, 3) := by decide +kernel
theorem dX11_filters_43 : decode cX11_filters 43 = .ok (.lconst 0, 1) := by decide +kernel
theorem dX11_filters_44 : decode cX11_filters 44 = .ok (.goto 17, 3) := by decide +kernel
theorem dX11_filters_47 : decode cX11_filters 47 = .ok (.iload 4, 2) := by decide +kernel
theorem dX11_filters_49 : decode cX11_filters 49 = .ok (.invokestatic 176, 3) := by decide +kernel
theorem dX11_filters_52 : decode cX11_filters 52 = .ok (.i2l, 1) := by decide +kernel
theorem dX11_filters_53 : decode cX11_filters 53 = .ok (.aload_n 0, 1) := by decide +kernel
theorem dX11_filters_54 : decode cX11_filters 54 = .ok (.getfield 45, 3) := by decide +kernel
theorem dX11_filters_57 : decode cX11_filters 57 = .ok (.iload 5, 2) := by decide +kernel
theorem dX11_filters_59 : decode cX11_filters 59 = .ok (.laload, 1) := by decide +kernel
theorem dX11_filters_60 : decode cX11_filters 60 = .ok (.lmul, 1) := by decide +kernel
theorem dX11_filters_61 : decode cX11_filters 61 = .ok (.ladd, 1) := by decide +kernel
theorem dX11_filters_62 : decode cX11_filters 62 = .ok (.lstore_n 2, 1) := by decide +kernel
theorem dX11_filters_63 : decode cX11_filters 63 = .ok (.iinc 4 1, 3) := by decide +kernel
theorem dX11_filters_66 : decode cX11_filters 66 = .ok (.goto (-51), 3) := by decide +kernel
theorem dX11_filters_69 : decode cX11_filters 69 = .ok (.aload_n 0, 1) := by decide +kernel
theorem dX11_filters_70 : decode cX11_filters 70 = .ok (.getfield 48, 3) := by decide +kernel
theorem dX11_filters_73 : decode cX11_filters 73 = .ok (.iload_n 1, 1) := by decide +kernel
theorem dX11_filters_74 : decode cX11_filters 74 = .ok (.lload_n 2, 1) := by decide +kernel
theorem dX11_filters_75 : decode cX11_filters 75 = .ok (.bipush 13, 2) := by decide +kernel
theorem dX11_filters_77 : decode cX11_filters 77 = .ok (.lshr, 1) := by decide +kernel
theorem dX11_filters_78 : decode cX11_filters 78 = .ok (.invokestatic 82, 3) := by decide +kernel
theorem dX11_filters_81 : decode cX11_filters 81 = .ok (.lastore, 1) := by decide +kernel
theorem dX11_filters_82 : decode cX11_filters 82 = .ok (.iinc 1 1, 3) := by decide +kernel
theorem dX11_filters_85 : decode cX11_filters 85 = .ok (.goto (-83), 3) := by decide +kernel
theorem dX11_filters_88 : decode cX11_filters 88 = .ok (.return_, 1) := by decide +kernel
theorem dX11_ofHeight_0 : decode cX11_ofHeight 0 = .ok (.aload_n 0, 1) := by decide +kernel
theorem dX11_ofHeight_1 : decode cX11_ofHeight 1 = .ok (.iload_n 1, 1) := by decide +kernel
theorem dX11_ofHeight_2 : decode cX11_ofHeight 2 = .ok (.bipush 15, 2) := by decide +kernel
theorem dX11_ofHeight_4 : decode cX11_ofHeight 4 = .ok (.if_icmp .le 11, 3) := by decide +kernel
theorem dX11_ofHeight_7 : decode cX11_ofHeight 7 = .ok (.iload_n 1, 1) := by decide +kernel
theorem dX11_ofHeight_8 : decode cX11_ofHeight 8 = .ok (.iconst 3, 1) := by decide +kernel
theorem dX11_ofHeight_9 : decode cX11_ofHeight 9 = .ok (.ishr, 1) := by decide +kernel
theorem dX11_ofHeight_10 : decode cX11_ofHeight 10 = .ok (.iconst 1, 1) := by decide +kernel
theorem dX11_ofHeight_11 : decode cX11_ofHeight 11 = .ok (.isub, 1) := by decide +kernel
theorem dX11_ofHeight_12 : decode cX11_ofHeight 12 = .ok (.goto 4, 3) := by decide +kernel
theorem dX11_ofHeight_15 : decode cX11_ofHeight 15 = .ok (.iconst 0, 1) := by decide +kernel
theorem dX11_ofHeight_16 : decode cX11_ofHeight 16 = .ok (.putfield 179, 3) := by decide +kernel
theorem dX11_ofHeight_19 : decode cX11_ofHeight 19 = .ok (.aload_n 0, 1) := by decide +kernel
theorem dX11_ofHeight_20 : decode cX11_ofHeight 20 = .ok (.iload_n 1, 1) := by decide +kernel
theorem dX11_ofHeight_21 : decode cX11_ofHeight 21 = .ok (.bipush 8, 2) := by decide +kernel
theorem dX11_ofHeight_23 : decode cX11_ofHeight 23 = .ok (.aload_n 0, 1) := by decide +kernel
theorem dX11_ofHeight_24 : decode cX11_ofHeight 24 = .ok (.getfield 179, 3) := by decide +kernel
theorem dX11_ofHeight_27 : decode cX11_ofHeight 27 = .ok (.imul, 1) := by decide +kernel
theorem dX11_ofHeight_28 : decode cX11_ofHeight 28 = .ok (.isub, 1) := by decide +kernel
theorem dX11_ofHeight_29 : decode cX11_ofHeight 29 = .ok (.putfield 182, 3) := by decide +kernel
theorem dX11_ofHeight_32 : decode cX11_ofHeight 32 = .ok (.aload_n 0, 1) := by decide +kernel
theorem dX11_ofHeight_33 : decode cX11_ofHeight 33 = .ok (.getfield 182, 3) := by decide +kernel
theorem dX11_ofHeight_36 : decode cX11_ofHeight 36 = .ok (.ifCond .ne 15, 3) := by decide +kernel
theorem dX11_ofHeight_39 : decode cX11_ofHeight 39 = .ok (.aload_n 0, 1) := by decide +kernel
theorem dX11_ofHeight_40 : decode cX11_ofHeight 40 = .ok (.bipush (-4), 2) := by decide +kernel
theorem dX11_ofHeight_42 : decode cX11_ofHeight 42 = .ok (.putfield 179, 3) := by decide +kernel
theorem dX11_ofHeight_45 : decode cX11_ofHeight 45 = .ok (.aload_n 0, 1) := by decide +kernel
theorem dX11_ofHeight_46 : decode cX11_ofHeight 46 = .ok (.bipush 15, 2) := by decide +kernel
theorem dX11_ofHeight_48 : decode cX11_ofHeight 48 = .ok (.putfield 182, 3) := by decide +kernel
theorem dX11_ofHeight_51 : decode cX11_ofHeight 51 = .ok (.aload_n 0, 1) := by decide +kernel
theorem dX11_ofHeight_52 : decode cX11_ofHeight 52 = .ok (.getfield 182, 3) := by decide +kernel
theorem dX11_ofHeight_55 : decode cX11_ofHeight 55 = .ok (.bipush 8, 2) := by decide +kernel
theorem dX11_ofHeight_57 : decode cX11_ofHeight 57 = .ok (.if_icmp .ge 28, 3) := by decide +kernel
theorem dX11_ofHeight_60 : decode cX11_ofHeight 60 = .ok (.aload_n 0, 1) := by decide +kernel
theorem dX11_ofHeight_61 : decode cX11_ofHeight 61 = .ok (.iconst 2, 1) := by decide +kernel
theorem dX11_ofHeight_62 : decode cX11_ofHeight 62 = .ok (.aload_n 0, 1) := by decide +kernel
theorem dX11_ofHeight_63 : decode cX11_ofHeight 63 = .ok (.getfield 182, 3) := by decide +kernel
theorem dX11_ofHeight_66 : decode cX11_ofHeight 66 = .ok (.imul, 1) := by decide +kernel
theorem dX11_ofHeight_67 : decode cX11_ofHeight 67 = .ok (.iconst 1, 1) := by decide +kernel
theorem dX11_ofHeight_68 : decode cX11_ofHeight 68 = .ok (.iadd, 1) := by decide +kernel
theorem dX11_ofHeight_69 : decode cX11_ofHeight 69 = .ok (.putfield 182, 3) := by decide +kernel
theorem dX11_ofHeight_72 : decode cX11_ofHeight 72 = .ok (.aload_n 0, 1) := by decide +kernel
theorem dX11_ofHeight_73 : decode cX11_ofHeight 73 = .ok (.dup, 1) := by decide +kernel
theorem dX11_ofHeight_74 : decode cX11_ofHeight 74 = .ok (.getfield 179, 3) := by decide +kernel
theorem dX11_ofHeight_77 : decode cX11_ofHeight 77 = .ok (.iconst 1, 1) := by decide +kernel
theorem dX11_ofHeight_78 : decode cX11_ofHeight 78 = .ok (.isub, 1) := by decide +kernel
theorem dX11_ofHeight_79 : decode cX11_ofHeight 79 = .ok (.putfield 179, 3) := by decide +kernel
theorem dX11_ofHeight_82 : decode cX11_ofHeight 82 = .ok (.goto (-31), 3) := by decide +kernel
theorem dX11_ofHeight_85 : decode cX11_ofHeight 85 = .ok (.aload_n 0, 1) := by decide +kernel
theorem dX11_ofHeight_86 : decode cX11_ofHeight 86 = .ok (.dup, 1) := by decide +kernel
theorem dX11_ofHeight_87 : decode cX11_ofHeight 87 = .ok (.getfield 182, 3) := by decide +kernel
theorem dX11_ofHeight_90 : decode cX11_ofHeight 90 = .ok (.bipush 8, 2) := by decide +kernel
theorem dX11_ofHeight_92 : decode cX11_ofHeight 92 = .ok (.isub, 1) := by decide +kernel
theorem dX11_ofHeight_93 : decode cX11_ofHeight 93 = .ok (.putfield 182, 3) := by decide +kernel
theorem dX11_ofHeight_96 : decode cX11_ofHeight 96 = .ok (.return_, 1) := by decide +kernel
theorem dX11_tellsPulses_0 : decode cX11_tellsPulses 0 = .ok (.iconst 0, 1) := by decide +kernel
theorem dX11_tellsPulses_1 : decode cX11_tellsPulses 1 = .ok (.istore_n 2, 1) := by decide +kernel
theorem dX11_tellsPulses_2 : decode cX11_tellsPulses 2 = .ok (.ldc2_w 185, 3) := by decide +kernel
theorem dX11_tellsPulses_5 : decode cX11_tellsPulses 5 = .ok (.lstore_n 3, 1) := by decide +kernel
theorem dX11_tellsPulses_6 : decode cX11_tellsPulses 6 = .ok (.iconst 0, 1) := by decide +kernel
theorem dX11_tellsPulses_7 : decode cX11_tellsPulses 7 = .ok (.istore 5, 2) := by decide +kernel
theorem dX11_tellsPulses_9 : decode cX11_tellsPulses 9 = .ok (.iload 5, 2) := by decide +kernel
theorem dX11_tellsPulses_11 : decode cX11_tellsPulses 11 = .ok (.iconst 4, 1) := by decide +kernel
theorem dX11_tellsPulses_12 : decode cX11_tellsPulses 12 = .ok (.if_icmp .ge 75, 3) := by decide +kernel
theorem dX11_tellsPulses_15 : decode cX11_tellsPulses 15 = .ok (.lconst 0, 1) := by decide +kernel
theorem dX11_tellsPulses_16 : decode cX11_tellsPulses 16 = .ok (.lstore 6, 2) := by decide +kernel
theorem dX11_tellsPulses_18 : decode cX11_tellsPulses 18 = .ok (.iconst 0, 1) := by decide +kernel
theorem dX11_tellsPulses_19 : decode cX11_tellsPulses 19 = .ok (.istore 8, 2) := by decide +kernel
theorem dX11_tellsPulses_21 : decode cX11_tellsPulses 21 = .ok (.iload 8, 2) := by decide +kernel
theorem dX11_tellsPulses_23 : decode cX11_tellsPulses 23 = .ok (.bipush 13, 2) := by decide +kernel
theorem dX11_tellsPulses_25 : decode cX11_tellsPulses 25 = .ok (.if_icmp .ge 43, 3) := by decide +kernel
theorem dX11_tellsPulses_28 : decode cX11_tellsPulses 28 = .ok (.lload 6, 2) := by decide +kernel
theorem dX11_tellsPulses_30 : decode cX11_tellsPulses 30 = .ok (.aload_n 0, 1) := by decide +kernel
theorem dX11_tellsPulses_31 : decode cX11_tellsPulses 31 = .ok (.getfield 48, 3) := by decide +kernel
theorem dX11_tellsPulses_34 : decode cX11_tellsPulses 34 = .ok (.iload 5, 2) := by decide +kernel
theorem dX11_tellsPulses_36 : decode cX11_tellsPulses 36 = .ok (.iconst 3, 1) := by decide +kernel
theorem dX11_tellsPulses_37 : decode cX11_tellsPulses 37 = .ok (.iload 8, 2) := by decide +kernel
theorem dX11_tellsPulses_39 : decode cX11_tellsPulses 39 = .ok (.imul, 1) := by decide +kernel
theorem dX11_tellsPulses_40 : decode cX11_tellsPulses 40 = .ok (.iadd, 1) := by decide +kernel
theorem dX11_tellsPulses_41 : decode cX11_tellsPulses 41 = .ok (.laload, 1) := by decide +kernel
theorem dX11_tellsPulses_42 : decode cX11_tellsPulses 42 = .ok (.iconst 2, 1) := by decide +kernel
theorem dX11_tellsPulses_43 : decode cX11_tellsPulses 43 = .ok (.lshr, 1) := by decide +kernel
theorem dX11_tellsPulses_44 : decode cX11_tellsPulses 44 = .ok (.aload_n 0, 1) := by decide +kernel
theorem dX11_tellsPulses_45 : decode cX11_tellsPulses 45 = .ok (.getfield 48, 3) := by decide +kernel
theorem dX11_tellsPulses_48 : decode cX11_tellsPulses 48 = .ok (.iload 5, 2) := by decide +kernel
theorem dX11_tellsPulses_50 : decode cX11_tellsPulses 50 = .ok (.iconst 3, 1) := by decide +kernel
theorem dX11_tellsPulses_51 : decode cX11_tellsPulses 51 = .ok (.iload 8, 2) := by decide +kernel
theorem dX11_tellsPulses_53 : decode cX11_tellsPulses 53 = .ok (.imul, 1) := by decide +kernel
theorem dX11_tellsPulses_54 : decode cX11_tellsPulses 54 = .ok (.iadd, 1) := by decide +kernel
theorem dX11_tellsPulses_55 : decode cX11_tellsPulses 55 = .ok (.laload, 1) := by decide +kernel
theorem dX11_tellsPulses_56 : decode cX11_tellsPulses 56 = .ok (.iconst 2, 1) := by decide +kernel
theorem dX11_tellsPulses_57 : decode cX11_tellsPulses 57 = .ok (.lshr, 1) := by decide +kernel
theorem dX11_tellsPulses_58 : decode cX11_tellsPulses 58 = .ok (.lmul, 1) := by decide +kernel
theorem dX11_tellsPulses_59 : decode cX11_tellsPulses 59 = .ok (.ladd, 1) := by decide +kernel
theorem dX11_tellsPulses_60 : decode cX11_tellsPulses 60 = .ok (.lstore 6, 2) := by decide +kernel
theorem dX11_tellsPulses_62 : decode cX11_tellsPulses 62 = .ok (.iinc 8 1, 3) := by decide +kernel
theorem dX11_tellsPulses_65 : decode cX11_tellsPulses 65 = .ok (.goto (-44), 3) := by decide +kernel
theorem dX11_tellsPulses_68 : decode cX11_tellsPulses 68 = .ok (.lload 6, 2) := by decide +kernel
theorem dX11_tellsPulses_70 : decode cX11_tellsPulses 70 = .ok (.lload_n 3, 1) := by decide +kernel
theorem dX11_tellsPulses_71 : decode cX11_tellsPulses 71 = .ok (.lcmp, 1) := by decide +kernel
theorem dX11_tellsPulses_72 : decode cX11_tellsPulses 72 = .ok (.ifCond .le 9, 3) := by decide +kernel
theorem dX11_tellsPulses_75 : decode cX11_tellsPulses 75 = .ok (.lload 6, 2) := by decide +kernel
theorem dX11_tellsPulses_77 : decode cX11_tellsPulses 77 = .ok (.lstore_n 3, 1) := by decide +kernel
theorem dX11_tellsPulses_78 : decode cX11_tellsPulses 78 = .ok (.iload 5, 2) := by decide +kernel
theorem dX11_tellsPulses_80 : decode cX11_tellsPulses 80 = .ok (.istore_n 2, 1) := by decide +kernel
theorem dX11_tellsPulses_81 : decode cX11_tellsPulses 81 = .ok (.iinc 5 1, 3) := by decide +kernel
theorem dX11_tellsPulses_84 : decode cX11_tellsPulses 84 = .ok (.goto (-75), 3) := by decide +kernel
theorem dX11_tellsPulses_87 : decode cX11_tellsPulses 87 = .ok (.lconst 0, 1) := by decide +kernel
theorem dX11_tellsPulses_88 : decode cX11_tellsPulses 88 = .ok (.lstore 5, 2) := by decide +kernel
theorem dX11_tellsPulses_90 : decode cX11_tellsPulses 90 = .ok (.iconst 0, 1) := by decide +kernel
theorem dX11_tellsPulses_91 : decode cX11_tellsPulses 91 = .ok (.istore 7, 2) := by decide +kernel
theorem dX11_tellsPulses_93 : decode cX11_tellsPulses 93 = .ok (.iload 7, 2) := by decide +kernel
theorem dX11_tellsPulses_95 : decode cX11_tellsPulses 95 = .ok (.bipush 13, 2) := by decide +kernel
theorem dX11_tellsPulses_97 : decode cX11_tellsPulses 97 = .ok (.if_icmp .ge 50, 3) := by decide +kernel
theorem dX11_tellsPulses_100 : decode cX11_tellsPulses 100 = .ok (.aload_n 0, 1) := by decide +kernel
theorem dX11_tellsPulses_101 : decode cX11_tellsPulses 101 = .ok (.getfield 48, 3) := by decide +kernel
theorem dX11_tellsPulses_104 : decode cX11_tellsPulses 104 = .ok (.iload_n 2, 1) := by decide +kernel
theorem dX11_tellsPulses_105 : decode cX11_tellsPulses 105 = .ok (.iconst 3, 1) := by decide +kernel
theorem dX11_tellsPulses_106 : decode cX11_tellsPulses 106 = .ok (.iload 7, 2) := by decide +kernel
theorem dX11_tellsPulses_108 : decode cX11_tellsPulses 108 = .ok (.imul, 1) := by decide +kernel
theorem dX11_tellsPulses_109 : decode cX11_tellsPulses 109 = .ok (.iadd, 1) := by decide +kernel
theorem dX11_tellsPulses_110 : decode cX11_tellsPulses 110 = .ok (.laload, 1) := by decide +kernel
theorem dX11_tellsPulses_111 : decode cX11_tellsPulses 111 = .ok (.invokestatic 124, 3) := by decide +kernel
theorem dX11_tellsPulses_114 : decode cX11_tellsPulses 114 = .ok (.lload 5, 2) := by decide +kernel
theorem dX11_tellsPulses_116 : decode cX11_tellsPulses 116 = .ok (.lcmp, 1) := by decide +kernel
theorem dX11_tellsPulses_117 : decode cX11_tellsPulses 117 = .ok (.ifCond .le 20, 3) := by decide +kernel
theorem dX11_tellsPulses_120 : decode cX11_tellsPulses 120 = .ok (.aload_n 0, 1) := by decide +kernel
theorem dX11_tellsPulses_121 : decode cX11_tellsPulses 121 = .ok (.getfield 48, 3) := by decide +kernel
theorem dX11_tellsPulses_124 : decode cX11_tellsPulses 124 = .ok (.iload_n 2, 1) := by decide +kernel
theorem dX11_tellsPulses_125 : decode cX11_tellsPulses 125 = .ok (.iconst 3, 1) := by decide +kernel
theorem dX11_tellsPulses_126 : decode cX11_tellsPulses 126 = .ok (.iload 7, 2) := by decide +kernel
theorem dX11_tellsPulses_128 : decode cX11_tellsPulses 128 = .ok (.imul, 1) := by decide +kernel
theorem dX11_tellsPulses_129 : decode cX11_tellsPulses 129 = .ok (.iadd, 1) := by decide +kernel
theorem dX11_tellsPulses_130 : decode cX11_tellsPulses 130 = .ok (.laload, 1) := by decide +kernel
theorem dX11_tellsPulses_131 : decode cX11_tellsPulses 131 = .ok (.invokestatic 124, 3) := by decide +kernel
theorem dX11_tellsPulses_134 : decode cX11_tellsPulses 134 = .ok (.goto 5, 3) := by decide +kernel
theorem dX11_tellsPulses_137 : decode cX11_tellsPulses 137 = .ok (.lload 5, 2) := by decide +kernel
theorem dX11_tellsPulses_139 : decode cX11_tellsPulses 139 = .ok (.lstore 5, 2) := by decide +kernel
theorem dX11_tellsPulses_141 : decode cX11_tellsPulses 141 = .ok (.iinc 7 1, 3) := by decide +kernel
theorem dX11_tellsPulses_144 : decode cX11_tellsPulses 144 = .ok (.goto (-51), 3) := by decide +kernel
theorem dX11_tellsPulses_147 : decode cX11_tellsPulses 147 = .ok (.iconst 0, 1) := by decide +kernel
theorem dX11_tellsPulses_148 : decode cX11_tellsPulses 148 = .ok (.istore 7, 2) := by decide +kernel
theorem dX11_tellsPulses_150 : decode cX11_tellsPulses 150 = .ok (.iconst 0, 1) := by decide +kernel
theorem dX11_tellsPulses_151 : decode cX11_tellsPulses 151 = .ok (.istore 8, 2) := by decide +kernel
theorem dX11_tellsPulses_153 : decode cX11_tellsPulses 153 = .ok (.iload 8, 2) := by decide +kernel
theorem dX11_tellsPulses_155 : decode cX11_tellsPulses 155 = .ok (.bipush 6, 2) := by decide +kernel
theorem dX11_tellsPulses_157 : decode cX11_tellsPulses 157 = .ok (.if_icmp .ge 32, 3) := by decide +kernel
theorem dX11_tellsPulses_160 : decode cX11_tellsPulses 160 = .ok (.iload 7, 2) := by decide +kernel
theorem dX11_tellsPulses_162 : decode cX11_tellsPulses 162 = .ok (.lload 5, 2) := by decide +kernel
theorem dX11_tellsPulses_164 : decode cX11_tellsPulses 164 = .ok (.bipush 9, 2) := by decide +kernel
theorem dX11_tellsPulses_166 : decode cX11_tellsPulses 166 = .ok (.iload 8, 2) := by decide +kernel
theorem dX11_tellsPulses_168 : decode cX11_tellsPulses 168 = .ok (.iadd, 1) := by decide +kernel
theorem dX11_tellsPulses_169 : decode cX11_tellsPulses 169 = .ok (.lshr, 1) := by decide +kernel
theorem dX11_tellsPulses_170 : decode cX11_tellsPulses 170 = .ok (.lconst 0, 1) := by decide +kernel
theorem dX11_tellsPulses_171 : decode cX11_tellsPulses 171 = .ok (.lcmp, 1) := by decide +kernel
theorem dX11_tellsPulses_172 : decode cX11_tellsPulses 172 = .ok (.ifCond .le 7, 3) := by decide +kernel
theorem dX11_tellsPulses_175 : decode cX11_tellsPulses 175 = .ok (.iconst 1, 1) := by decide +kernel
theorem dX11_tellsPulses_176 : decode cX11_tellsPulses 176 = .ok (.goto 4, 3) := by decide +kernel
theorem dX11_tellsPulses_179 : decode cX11_tellsPulses 179 = .ok (.iconst 0, 1) := by decide +kernel
theorem dX11_tellsPulses_180 : decode cX11_tellsPulses 180 = .ok (.iadd, 1) := by decide +kernel
theorem dX11_tellsPulses_181 : decode cX11_tellsPulses 181 = .ok (.istore 7, 2) := by decide +kernel
theorem dX11_tellsPulses_183 : decode cX11_tellsPulses 183 = .ok (.iinc 8 1, 3) := by decide +kernel
theorem dX11_tellsPulses_186 : decode cX11_tellsPulses 186 = .ok (.goto (-33), 3) := by decide +kernel
theorem dX11_tellsPulses_189 : decode cX11_tellsPulses 189 = .ok (.bipush 10, 2) := by decide +kernel
theorem dX11_tellsPulses_191 : decode cX11_tellsPulses 191 = .ok (.bipush 17, 2) := by decide +kernel
theorem dX11_tellsPulses_193 : decode cX11_tellsPulses 193 = .ok (.iload_n 1, 1) := by decide +kernel
theorem dX11_tellsPulses_194 : decode cX11_tellsPulses 194 = .ok (.imul, 1) := by decide +kernel
theorem dX11_tellsPulses_195 : decode cX11_tellsPulses 195 = .ok (.iadd, 1) := by decide +kernel
theorem dX11_tellsPulses_196 : decode cX11_tellsPulses 196 = .ok (.istore 8, 2) := by decide +kernel
theorem dX11_tellsPulses_198 : decode cX11_tellsPulses 198 = .ok (.aload_n 0, 1) := by decide +kernel
theorem dX11_tellsPulses_199 : decode cX11_tellsPulses 199 = .ok (.getfield 17, 3) := by decide +kernel
theorem dX11_tellsPulses_202 : decode cX11_tellsPulses 202 = .ok (.iload 8, 2) := by decide +kernel
theorem dX11_tellsPulses_204 : decode cX11_tellsPulses 204 = .ok (.iload_n 2, 1) := by decide +kernel
theorem dX11_tellsPulses_205 : decode cX11_tellsPulses 205 = .ok (.iastore, 1) := by decide +kernel
theorem dX11_tellsPulses_206 : decode cX11_tellsPulses 206 = .ok (.aload_n 0, 1) := by decide +kernel
theorem dX11_tellsPulses_207 : decode cX11_tellsPulses 207 = .ok (.getfield 17, 3) := by decide +kernel
theorem dX11_tellsPulses_210 : decode cX11_tellsPulses 210 = .ok (.iload 8, 2) := by decide +kernel
theorem dX11_tellsPulses_212 : decode cX11_tellsPulses 212 = .ok (.iconst 1, 1) := by decide +kernel
theorem dX11_tellsPulses_213 : decode cX11_tellsPulses 213 = .ok (.iadd, 1) := by decide +kernel
theorem dX11_tellsPulses_214 : decode cX11_tellsPulses 214 = .ok (.lload 5, 2) := by decide +kernel
theorem dX11_tellsPulses_216 : decode cX11_tellsPulses 216 = .ok (.iload 7, 2) := by decide +kernel
theorem dX11_tellsPulses_218 : decode cX11_tellsPulses 218 = .ok (.iconst 5, 1) := by decide +kernel
theorem dX11_tellsPulses_219 : decode cX11_tellsPulses 219 = .ok (.iadd, 1) := by decide +kernel
theorem dX11_tellsPulses_220 : decode cX11_tellsPulses 220 = .ok (.lshr, 1) := by decide +kernel
theorem dX11_tellsPulses_221 : decode cX11_tellsPulses 221 = .ok (.l2i, 1) := by decide +kernel
theorem dX11_tellsPulses_222 : decode cX11_tellsPulses 222 = .ok (.bipush 8, 2) := by decide +kernel
theorem dX11_tellsPulses_224 : decode cX11_tellsPulses 224 = .ok (.iload 7, 2) := by decide +kernel
theorem dX11_tellsPulses_226 : decode cX11_tellsPulses 226 = .ok (.imul, 1) := by decide +kernel
theorem dX11_tellsPulses_227 : decode cX11_tellsPulses 227 = .ok (.iadd, 1) := by decide +kernel
theorem dX11_tellsPulses_228 : decode cX11_tellsPulses 228 = .ok (.iastore, 1) := by decide +kernel
theorem dX11_tellsPulses_229 : decode cX11_tellsPulses 229 = .ok (.aload_n 0, 1) := by decide +kernel
theorem dX11_tellsPulses_230 : decode cX11_tellsPulses 230 = .ok (.aload_n 0, 1) := by decide +kernel
theorem dX11_tellsPulses_231 : decode cX11_tellsPulses 231 = .ok (.getfield 17, 3) := by decide +kernel
theorem dX11_tellsPulses_234 : decode cX11_tellsPulses 234 = .ok (.iload 8, 2) := by decide +kernel
theorem dX11_tellsPulses_236 : decode cX11_tellsPulses 236 = .ok (.iconst 1, 1) := by decide +kernel
theorem dX11_tellsPulses_237 : decode cX11_tellsPulses 237 = .ok (.iadd, 1) := by decide +kernel
theorem dX11_tellsPulses_238 : decode cX11_tellsPulses 238 = .ok (.iaload, 1) := by decide +kernel
theorem dX11_tellsPulses_239 : decode cX11_tellsPulses 239 = .ok (.invokevirtual 187, 3) := by decide +kernel
theorem dX11_tellsPulses_242 : decode cX11_tellsPulses 242 = .ok (.iconst 0, 1) := by decide +kernel
theorem dX11_tellsPulses_243 : decode cX11_tellsPulses 243 = .ok (.istore 9, 2) := by decide +kernel
theorem dX11_tellsPulses_245 : decode cX11_tellsPulses 245 = .ok (.iload 9, 2) := by decide +kernel
theorem dX11_tellsPulses_247 : decode cX11_tellsPulses 247 = .ok (.bipush 13, 2) := by decide +kernel
theorem dX11_tellsPulses_249 : decode cX11_tellsPulses 249 = .ok (.if_icmp .ge 57, 3) := by decide +kernel
theorem dX11_tellsPulses_252 : decode cX11_tellsPulses 252 = .ok (.aload_n 0, 1) := by decide +kernel
theorem dX11_tellsPulses_253 : decode cX11_tellsPulses 253 = .ok (.getfield 17, 3) := by decide +kernel
theorem dX11_tellsPulses_256 : decode cX11_tellsPulses 256 = .ok (.iload 8, 2) := by decide +kernel
theorem dX11_tellsPulses_258 : decode cX11_tellsPulses 258 = .ok (.iconst 2, 1) := by decide +kernel
theorem dX11_tellsPulses_259 : decode cX11_tellsPulses 259 = .ok (.iadd, 1) := by decide +kernel
theorem dX11_tellsPulses_260 : decode cX11_tellsPulses 260 = .ok (.iload 9, 2) := by decide +kernel
theorem dX11_tellsPulses_262 : decode cX11_tellsPulses 262 = .ok (.iadd, 1) := by decide +kernel
theorem dX11_tellsPulses_263 : decode cX11_tellsPulses 263 = .ok (.aload_n 0, 1) := by decide +kernel
theorem dX11_tellsPulses_264 : decode cX11_tellsPulses 264 = .ok (.getfield 48, 3) := by decide +kernel
theorem dX11_tellsPulses_267 : decode cX11_tellsPulses 267 = .ok (.iload_n 2, 1) := by decide +kernel
theorem dX11_tellsPulses_268 : decode cX11_tellsPulses 268 = .ok (.iconst 3, 1) := by decide +kernel
theorem dX11_tellsPulses_269 : decode cX11_tellsPulses 269 = .ok (.iload 9, 2) := by decide +kernel
theorem dX11_tellsPulses_271 : decode cX11_tellsPulses 271 = .ok (.imul, 1) := by decide +kernel
theorem dX11_tellsPulses_272 : decode cX11_tellsPulses 272 = .ok (.iadd, 1) := by decide +kernel
theorem dX11_tellsPulses_273 : decode cX11_tellsPulses 273 = .ok (.laload, 1) := by decide +kernel
theorem dX11_tellsPulses_274 : decode cX11_tellsPulses 274 = .ok (.bipush 6, 2) := by decide +kernel
theorem dX11_tellsPulses_276 : decode cX11_tellsPulses 276 = .ok (.aload_n 0, 1) := by decide +kernel
theorem dX11_tellsPulses_277 : decode cX11_tellsPulses 277 = .ok (.getfield 179, 3) := by decide +kernel
theorem dX11_tellsPulses_280 : decode cX11_tellsPulses 280 = .ok (.isub, 1) := by decide +kernel
theorem dX11_tellsPulses_281 : decode cX11_tellsPulses 281 = .ok (.lshl, 1) := by decide +kernel
theorem dX11_tellsPulses_282 : decode cX11_tellsPulses 282 = .ok (.aload_n 0, 1) := by decide +kernel
theorem dX11_tellsPulses_283 : decode cX11_tellsPulses 283 = .ok (.getfield 182, 3) := by decide +kernel
theorem dX11_tellsPulses_286 : decode cX11_tellsPulses 286 = .ok (.invokestatic 191, 3) := by decide +kernel
theorem dX11_tellsPulses_289 : decode cX11_tellsPulses 289 = .ok (.i2l, 1) := by decide +kernel
theorem dX11_tellsPulses_290 : decode cX11_tellsPulses 290 = .ok (.invokestatic 149, 3) := by decide +kernel
theorem dX11_tellsPulses_293 : decode cX11_tellsPulses 293 = .ok (.bipush 12, 2) := by decide +kernel
theorem dX11_tellsPulses_295 : decode cX11_tellsPulses 295 = .ok (.lshr, 1) := by decide +kernel
theorem dX11_tellsPulses_296 : decode cX11_tellsPulses 296 = .ok (.l2i, 1) := by decide +kernel
theorem dX11_tellsPulses_297 : decode cX11_tellsPulses 297 = .ok (.iconst 4, 1) := by decide +kernel
theorem dX11_tellsPulses_298 : decode cX11_tellsPulses 298 = .ok (.iadd, 1) := by decide +kernel
theorem dX11_tellsPulses_299 : decode cX11_tellsPulses 299 = .ok (.iastore, 1) := by decide +kernel
theorem dX11_tellsPulses_300 : decode cX11_tellsPulses 300 = .ok (.iinc 9 1, 3) := by decide +kernel
theorem dX11_tellsPulses_303 : decode cX11_tellsPulses 303 = .ok (.goto (-58), 3) := by decide +kernel
theorem dX11_tellsPulses_306 : decode cX11_tellsPulses 306 = .ok (.return_, 1) := by decide +kernel
theorem dX11_makes_0 : decode cX11_makes 0 = .ok (.bipush 10, 2) := by decide +kernel
theorem dX11_makes_2 : decode cX11_makes 2 = .ok (.bipush 17, 2) := by decide +kernel
theorem dX11_makes_4 : decode cX11_makes 4 = .ok (.iload_n 1, 1) := by decide +kernel
theorem dX11_makes_5 : decode cX11_makes 5 = .ok (.imul, 1) := by decide +kernel
theorem dX11_makes_6 : decode cX11_makes 6 = .ok (.iadd, 1) := by decide +kernel
theorem dX11_makes_7 : decode cX11_makes 7 = .ok (.istore_n 2, 1) := by decide +kernel
theorem dX11_makes_8 : decode cX11_makes 8 = .ok (.aload_n 0, 1) := by decide +kernel
theorem dX11_makes_9 : decode cX11_makes 9 = .ok (.aload_n 0, 1) := by decide +kernel
theorem dX11_makes_10 : decode cX11_makes 10 = .ok (.getfield 17, 3) := by decide +kernel
theorem dX11_makes_13 : decode cX11_makes 13 = .ok (.iload_n 2, 1) := by decide +kernel
theorem dX11_makes_14 : decode cX11_makes 14 = .ok (.iconst 1, 1) := by decide +kernel
theorem dX11_makes_15 : decode cX11_makes 15 = .ok (.iadd, 1) := by decide +kernel
theorem dX11_makes_16 : decode cX11_makes 16 = .ok (.iaload, 1) := by decide +kernel
theorem dX11_makes_17 : decode cX11_makes 17 = .ok (.invokevirtual 187, 3) := by decide +kernel
theorem dX11_makes_20 : decode cX11_makes 20 = .ok (.bipush 6, 2) := by decide +kernel
theorem dX11_makes_22 : decode cX11_makes 22 = .ok (.aload_n 0, 1) := by decide +kernel
theorem dX11_makes_23 : decode cX11_makes 23 = .ok (.getfield 179, 3) := by decide +kernel
theorem dX11_makes_26 : decode cX11_makes 26 = .ok (.isub, 1) := by decide +kernel
theorem dX11_makes_27 : decode cX11_makes 27 = .ok (.istore_n 3, 1) := by decide +kernel
theorem dX11_makes_28 : decode cX11_makes 28 = .ok (.iconst 0, 1) := by decide +kernel
theorem dX11_makes_29 : decode cX11_makes 29 = .ok (.istore 4, 2) := by decide +kernel
theorem dX11_makes_31 : decode cX11_makes 31 = .ok (.iload 4, 2) := by decide +kernel
theorem dX11_makes_33 : decode cX11_makes 33 = .ok (.bipush 40, 2) := by decide +kernel
theorem dX11_makes_35 : decode cX11_makes 35 = .ok (.if_icmp .ge 17, 3) := by decide +kernel
theorem dX11_makes_38 : decode cX11_makes 38 = .ok (.aload_n 0, 1) := by decide +kernel
theorem dX11_makes_39 : decode cX11_makes 39 = .ok (.getfield 66, 3) := by decide +kernel
theorem dX11_makes_42 : decode cX11_makes 42 = .ok (.iload 4, 2) := by decide +kernel
theorem dX11_makes_44 : decode cX11_makes 44 = .ok (.lconst 0, 1) := by decide +kernel
theorem dX11_makes_45 : decode cX11_makes 45 = .ok (.lastore, 1) := by decide +kernel
theorem dX11_makes_46 : decode cX11_makes 46 = .ok (.iinc 4 1, 3) := by decide +kernel
theorem dX11_makes_49 : decode cX11_makes 49 = .ok (.goto (-18), 3) := by decide +kernel
theorem dX11_makes_52 : decode cX11_makes 52 = .ok (.iconst 0, 1) := by decide +kernel
theorem dX11_makes_53 : decode cX11_makes 53 = .ok (.istore 4, 2) := by decide +kernel
theorem dX11_makes_55 : decode cX11_makes 55 = .ok (.iload 4, 2) := by decide +kernel
theorem dX11_makes_57 : decode cX11_makes 57 = .ok (.bipush 13, 2) := by decide +kernel
theorem dX11_makes_59 : decode cX11_makes 59 = .ok (.if_icmp .ge 83, 3) := by decide +kernel
theorem dX11_makes_62 : decode cX11_makes 62 = .ok (.aload_n 0, 1) := by decide +kernel
theorem dX11_makes_63 : decode cX11_makes 63 = .ok (.getfield 182, 3) := by decide +kernel
theorem dX11_makes_66 : decode cX11_makes 66 = .ok (.invokestatic 194, 3) := by decide +kernel
theorem dX11_makes_69 : decode cX11_makes 69 = .ok (.i2l, 1) := by decide +kernel
theorem dX11_makes_70 : decode cX11_makes 70 = .ok (.ldc2_w 135, 3) := by decide +kernel
theorem dX11_makes_73 : decode cX11_makes 73 = .ok (.aload_n 0, 1) := by decide +kernel
theorem dX11_makes_74 : decode cX11_makes 74 = .ok (.getfield 17, 3) := by decide +kernel
theorem dX11_makes_77 : decode cX11_makes 77 = .ok (.iload_n 2, 1) := by decide +kernel
theorem dX11_makes_78 : decode cX11_makes 78 = .ok (.iconst 2, 1) := by decide +kernel
theorem dX11_makes_79 : decode cX11_makes 79 = .ok (.iadd, 1) := by decide +kernel
theorem dX11_makes_80 : decode cX11_makes 80 = .ok (.iload 4, 2) := by decide +kernel
theorem dX11_makes_82 : decode cX11_makes 82 = .ok (.iadd, 1) := by decide +kernel
theorem dX11_makes_83 : decode cX11_makes 83 = .ok (.iaload, 1) := by decide +kernel
theorem dX11_makes_84 : decode cX11_makes 84 = .ok (.i2l, 1) := by decide +kernel
theorem dX11_makes_85 : decode cX11_makes 85 = .ok (.lmul, 1) := by decide +kernel
theorem dX11_makes_86 : decode cX11_makes 86 = .ok (.ldc2_w 197, 3) := by decide +kernel
theorem dX11_makes_89 : decode cX11_makes 89 = .ok (.lsub, 1) := by decide +kernel
theorem dX11_makes_90 : decode cX11_makes 90 = .ok (.ldc2_w 174, 3) := by decide +kernel
theorem dX11_makes_93 : decode cX11_makes 93 = .ok (.lmul, 1) := by decide +kernel
theorem dX11_makes_94 : decode cX11_makes 94 = .ok (.invokestatic 112, 3) := by decide +kernel
theorem dX11_makes_97 : decode cX11_makes 97 = .ok (.lstore 5, 2) := by decide +kernel
theorem dX11_makes_99 : decode cX11_makes 99 = .ok (.aload_n 0, 1) := by decide +kernel
theorem dX11_makes_100 : decode cX11_makes 100 = .ok (.getfield 66, 3) := by decide +kernel
theorem dX11_makes_103 : decode cX11_makes 103 = .ok (.aload_n 0, 1) := by decide +kernel
theorem dX11_makes_104 : decode cX11_makes 104 = .ok (.getfield 17, 3) := by decide +kernel
theorem dX11_makes_107 : decode cX11_makes 107 = .ok (.iload_n 2, 1) := by decide +kernel
theorem dX11_makes_108 : decode cX11_makes 108 = .ok (.iaload, 1) := by decide +kernel
theorem dX11_makes_109 : decode cX11_makes 109 = .ok (.iconst 3, 1) := by decide +kernel
theorem dX11_makes_110 : decode cX11_makes 110 = .ok (.iload 4, 2) := by decide +kernel
theorem dX11_makes_112 : decode cX11_makes 112 = .ok (.imul, 1) := by decide +kernel
theorem dX11_makes_113 : decode cX11_makes 113 = .ok (.iadd, 1) := by decide +kernel
theorem dX11_makes_114 : decode cX11_makes 114 = .ok (.lload 5, 2) := by decide +kernel
theorem dX11_makes_116 : decode cX11_makes 116 = .ok (.iload_n 3, 1) := by decide +kernel
theorem dX11_makes_117 : decode cX11_makes 117 = .ok (.ifCond .ne 7, 3) := by decide +kernel
theorem dX11_makes_120 : decode cX11_makes 120 = .ok (.lconst 0, 1) := by decide +kernel
theorem dX11_makes_121 : decode cX11_makes 121 = .ok (.goto 8, 3) := by decide +kernel
theorem dX11_makes_124 : decode cX11_makes 124 = .ok (.lconst 1, 1) := by decide +kernel
theorem dX11_makes_125 : decode cX11_makes 125 = .ok (.iload_n 3, 1) := by decide +kernel
theorem dX11_makes_126 : decode cX11_makes 126 = .ok (.iconst 1, 1) := by decide +kernel
theorem dX11_makes_127 : decode cX11_makes 127 = .ok (.isub, 1) := by decide +kernel
theorem dX11_makes_128 : decode cX11_makes 128 = .ok (.lshl, 1) := by decide +kernel
theorem dX11_makes_129 : decode cX11_makes 129 = .ok (.ladd, 1) := by decide +kernel
theorem dX11_makes_130 : decode cX11_makes 130 = .ok (.invokestatic 82, 3) := by decide +kernel
theorem dX11_makes_133 : decode cX11_makes 133 = .ok (.iload_n 3, 1) := by decide +kernel
theorem dX11_makes_134 : decode cX11_makes 134 = .ok (.lshr, 1) := by decide +kernel
theorem dX11_makes_135 : decode cX11_makes 135 = .ok (.lastore, 1) := by decide +kernel
theorem dX11_makes_136 : decode cX11_makes 136 = .ok (.iinc 4 1, 3) := by decide +kernel
theorem dX11_makes_139 : decode cX11_makes 139 = .ok (.goto (-84), 3) := by decide +kernel
theorem dX11_makes_142 : decode cX11_makes 142 = .ok (.return_, 1) := by decide +kernel
theorem dX11_settles_0 : decode cX11_settles 0 = .ok (.iconst 0, 1) := by decide +kernel
theorem dX11_settles_1 : decode cX11_settles 1 = .ok (.istore_n 2, 1) := by decide +kernel
theorem dX11_settles_2 : decode cX11_settles 2 = .ok (.iload_n 2, 1) := by decide +kernel
theorem dX11_settles_3 : decode cX11_settles 3 = .ok (.bipush 120, 2) := by decide +kernel
theorem dX11_settles_5 : decode cX11_settles 5 = .ok (.if_icmp .ge 29, 3) := by decide +kernel
theorem dX11_settles_8 : decode cX11_settles 8 = .ok (.aload_n 0, 1) := by decide +kernel
theorem dX11_settles_9 : decode cX11_settles 9 = .ok (.getfield 32, 3) := by decide +kernel
theorem dX11_settles_12 : decode cX11_settles 12 = .ok (.iload_n 1, 1) := by decide +kernel
theorem dX11_settles_13 : decode cX11_settles 13 = .ok (.iload_n 2, 1) := by decide +kernel
theorem dX11_settles_14 : decode cX11_settles 14 = .ok (.iadd, 1) := by decide +kernel
theorem dX11_settles_15 : decode cX11_settles 15 = .ok (.aload_n 0, 1) := by decide +kernel
theorem dX11_settles_16 : decode cX11_settles 16 = .ok (.getfield 32, 3) := by decide +kernel
theorem dX11_settles_19 : decode cX11_settles 19 = .ok (.iload_n 1, 1) := by decide +kernel
theorem dX11_settles_20 : decode cX11_settles 20 = .ok (.sipush 160, 3) := by decide +kernel
theorem dX11_settles_23 : decode cX11_settles 23 = .ok (.iadd, 1) := by decide +kernel
theorem dX11_settles_24 : decode cX11_settles 24 = .ok (.iload_n 2, 1) := by decide +kernel
theorem dX11_settles_25 : decode cX11_settles 25 = .ok (.iadd, 1) := by decide +kernel
theorem dX11_settles_26 : decode cX11_settles 26 = .ok (.laload, 1) := by decide +kernel
theorem dX11_settles_27 : decode cX11_settles 27 = .ok (.lastore, 1) := by decide +kernel
theorem dX11_settles_28 : decode cX11_settles 28 = .ok (.iinc 2 1, 3) := by decide +kernel
theorem dX11_settles_31 : decode cX11_settles 31 = .ok (.goto (-29), 3) := by decide +kernel
theorem dX11_settles_34 : decode cX11_settles 34 = .ok (.return_, 1) := by decide +kernel
theorem dX11_encode_0 : decode cX11_encode 0 = .ok (.aload_n 0, 1) := by decide +kernel
theorem dX11_encode_1 : decode cX11_encode 1 = .ok (.aload_n 0, 1) := by decide +kernel
theorem dX11_encode_2 : decode cX11_encode 2 = .ok (.getfield 88, 3) := by decide +kernel
theorem dX11_encode_5 : decode cX11_encode 5 = .ok (.sipush 160, 3) := by decide +kernel
theorem dX11_encode_8 : decode cX11_encode 8 = .ok (.if_icmp .ne 7, 3) := by decide +kernel
theorem dX11_encode_11 : decode cX11_encode 11 = .ok (.iconst 0, 1) := by decide +kernel
theorem dX11_encode_12 : decode cX11_encode 12 = .ok (.goto 4, 3) := by decide +kernel
theorem dX11_encode_15 : decode cX11_encode 15 = .ok (.iconst 1, 1) := by decide +kernel
theorem dX11_encode_16 : decode cX11_encode 16 = .ok (.invokevirtual 91, 3) := by decide +kernel
theorem dX11_encode_19 : decode cX11_encode 19 = .ok (.ifCond .eq 5, 3) := by decide +kernel
theorem dX11_encode_22 : decode cX11_encode 22 = .ok (.iconst 0, 1) := by decide +kernel
theorem dX11_encode_23 : decode cX11_encode 23 = .ok (.ireturn, 1) := by decide +kernel
theorem dX11_encode_24 : decode cX11_encode 24 = .ok (.aload_n 0, 1) := by decide +kernel
theorem dX11_encode_25 : decode cX11_encode 25 = .ok (.invokevirtual 199, 3) := by decide +kernel
theorem dX11_encode_28 : decode cX11_encode 28 = .ok (.aload_n 0, 1) := by decide +kernel
theorem dX11_encode_29 : decode cX11_encode 29 = .ok (.invokevirtual 202, 3) := by decide +kernel
theorem dX11_encode_32 : decode cX11_encode 32 = .ok (.aload_n 0, 1) := by decide +kernel
theorem dX11_encode_33 : decode cX11_encode 33 = .ok (.invokevirtual 205, 3) := by decide +kernel
theorem dX11_encode_36 : decode cX11_encode 36 = .ok (.aload_n 0, 1) := by decide +kernel
theorem dX11_encode_37 : decode cX11_encode 37 = .ok (.invokevirtual 208, 3) := by decide +kernel
theorem dX11_encode_40 : decode cX11_encode 40 = .ok (.aload_n 0, 1) := by decide +kernel
theorem dX11_encode_41 : decode cX11_encode 41 = .ok (.invokevirtual 211, 3) := by decide +kernel
theorem dX11_encode_44 : decode cX11_encode 44 = .ok (.aload_n 0, 1) := by decide +kernel
theorem dX11_encode_45 : decode cX11_encode 45 = .ok (.invokevirtual 214, 3) := by decide +kernel
theorem dX11_encode_48 : decode cX11_encode 48 = .ok (.aload_n 0, 1) := by decide +kernel
theorem dX11_encode_49 : decode cX11_encode 49 = .ok (.iconst 0, 1) := by decide +kernel
theorem dX11_encode_50 : decode cX11_encode 50 = .ok (.invokevirtual 217, 3) := by decide +kernel
theorem dX11_encode_53 : decode cX11_encode 53 = .ok (.iconst 0, 1) := by decide +kernel
theorem dX11_encode_54 : decode cX11_encode 54 = .ok (.istore_n 1, 1) := by decide +kernel
theorem dX11_encode_55 : decode cX11_encode 55 = .ok (.iload_n 1, 1) := by decide +kernel
theorem dX11_encode_56 : decode cX11_encode 56 = .ok (.iconst 4, 1) := by decide +kernel
theorem dX11_encode_57 : decode cX11_encode 57 = .ok (.if_icmp .ge 168, 3) := by decide +kernel
theorem dX11_encode_60 : decode cX11_encode 60 = .ok (.bipush 120, 2) := by decide +kernel
theorem dX11_encode_62 : decode cX11_encode 62 = .ok (.bipush 40, 2) := by decide +kernel
theorem dX11_encode_64 : decode cX11_encode 64 = .ok (.iload_n 1, 1) := by decide +kernel
theorem dX11_encode_65 : decode cX11_encode 65 = .ok (.imul, 1) := by decide +kernel
theorem dX11_encode_66 : decode cX11_encode 66 = .ok (.iadd, 1) := by decide +kernel
theorem dX11_encode_67 : decode cX11_encode 67 = .ok (.istore_n 2, 1) := by decide +kernel
theorem dX11_encode_68 : decode cX11_encode 68 = .ok (.aload_n 0, 1) := by decide +kernel
theorem dX11_encode_69 : decode cX11_encode 69 = .ok (.iload_n 1, 1) := by decide +kernel
theorem dX11_encode_70 : decode cX11_encode 70 = .ok (.iload_n 2, 1) := by decide +kernel
theorem dX11_encode_71 : decode cX11_encode 71 = .ok (.invokevirtual 220, 3) := by decide +kernel
theorem dX11_encode_74 : decode cX11_encode 74 = .ok (.iconst 0, 1) := by decide +kernel
theorem dX11_encode_75 : decode cX11_encode 75 = .ok (.istore_n 3, 1) := by decide +kernel
theorem dX11_encode_76 : decode cX11_encode 76 = .ok (.iload_n 3, 1) := by decide +kernel
theorem dX11_encode_77 : decode cX11_encode 77 = .ok (.bipush 40, 2) := by decide +kernel
theorem dX11_encode_79 : decode cX11_encode 79 = .ok (.if_icmp .ge 86, 3) := by decide +kernel
theorem dX11_encode_82 : decode cX11_encode 82 = .ok (.aload_n 0, 1) := by decide +kernel
theorem dX11_encode_83 : decode cX11_encode 83 = .ok (.getfield 32, 3) := by decide +kernel
theorem dX11_encode_86 : decode cX11_encode 86 = .ok (.iload_n 2, 1) := by decide +kernel
theorem dX11_encode_87 : decode cX11_encode 87 = .ok (.iload_n 3, 1) := by decide +kernel
theorem dX11_encode_88 : decode cX11_encode 88 = .ok (.iadd, 1) := by decide +kernel
theorem dX11_encode_89 : decode cX11_encode 89 = .ok (.aload_n 0, 1) := by decide +kernel
theorem dX11_encode_90 : decode cX11_encode 90 = .ok (.getfield 17, 3) := by decide +kernel
theorem dX11_encode_93 : decode cX11_encode 93 = .ok (.bipush 9, 2) := by decide +kernel
theorem dX11_encode_95 : decode cX11_encode 95 = .ok (.bipush 17, 2) := by decide +kernel
theorem dX11_encode_97 : decode cX11_encode 97 = .ok (.iload_n 1, 1) := by decide +kernel
theorem dX11_encode_98 : decode cX11_encode 98 = .ok (.imul, 1) := by decide +kernel
theorem dX11_encode_99 : decode cX11_encode 99 = .ok (.iadd, 1) := by decide +kernel
theorem dX11_encode_100 : decode cX11_encode 100 = .ok (.iaload, 1) := by decide +kernel
theorem dX11_encode_101 : decode cX11_encode 101 = .ok (.invokestatic 223, 3) := by decide +kernel
theorem dX11_encode_104 : decode cX11_encode 104 = .ok (.i2l, 1) := by decide +kernel
theorem dX11_encode_105 : decode cX11_encode 105 = .ok (.aload_n 0, 1) := by decide +kernel
theorem dX11_encode_106 : decode cX11_encode 106 = .ok (.getfield 32, 3) := by decide +kernel
theorem dX11_encode_109 : decode cX11_encode 109 = .ok (.iload_n 2, 1) := by decide +kernel
theorem dX11_encode_110 : decode cX11_encode 110 = .ok (.iload_n 3, 1) := by decide +kernel
theorem dX11_encode_111 : decode cX11_encode 111 = .ok (.iadd, 1) := by decide +kernel
theorem dX11_encode_112 : decode cX11_encode 112 = .ok (.aload_n 0, 1) := by decide +kernel
theorem dX11_encode_113 : decode cX11_encode 113 = .ok (.getfield 17, 3) := by decide +kernel
theorem dX11_encode_116 : decode cX11_encode 116 = .ok (.bipush 8, 2) := by decide +kernel
theorem dX11_encode_118 : decode cX11_encode 118 = .ok (.bipush 17, 2) := by decide +kernel
theorem dX11_encode_120 : decode cX11_encode 120 = .ok (.iload_n 1, 1) := by decide +kernel
theorem dX11_encode_121 : decode cX11_encode 121 = .ok (.imul, 1) := by decide +kernel
theorem dX11_encode_122 : decode cX11_encode 122 = .ok (.iadd, 1) := by decide +kernel
theorem dX11_encode_123 : decode cX11_encode 123 = .ok (.iaload, 1) := by decide +kernel
theorem dX11_encode_124 : decode cX11_encode 124 = .ok (.isub, 1) := by decide +kernel
theorem dX11_encode_125 : decode cX11_encode 125 = .ok (.laload, 1) := by decide +kernel
theorem dX11_encode_126 : decode cX11_encode 126 = .ok (.invokestatic 112, 3) := by decide +kernel
theorem dX11_encode_129 : decode cX11_encode 129 = .ok (.lastore, 1) := by decide +kernel
theorem dX11_encode_130 : decode cX11_encode 130 = .ok (.aload_n 0, 1) := by decide +kernel
theorem dX11_encode_131 : decode cX11_encode 131 = .ok (.getfield 45, 3) := by decide +kernel
theorem dX11_encode_134 : decode cX11_encode 134 = .ok (.iload_n 3, 1) := by decide +kernel
theorem dX11_encode_135 : decode cX11_encode 135 = .ok (.aload_n 0, 1) := by decide +kernel
theorem dX11_encode_136 : decode cX11_encode 136 = .ok (.getfield 42, 3) := by decide +kernel
theorem dX11_encode_139 : decode cX11_encode 139 = .ok (.bipush 40, 2) := by decide +kernel
theorem dX11_encode_141 : decode cX11_encode 141 = .ok (.iload_n 1, 1) := by decide +kernel
theorem dX11_encode_142 : decode cX11_encode 142 = .ok (.imul, 1) := by decide +kernel
theorem dX11_encode_143 : decode cX11_encode 143 = .ok (.iload_n 3, 1) := by decide +kernel
theorem dX11_encode_144 : decode cX11_encode 144 = .ok (.iadd, 1) := by decide +kernel
theorem dX11_encode_145 : decode cX11_encode 145 = .ok (.laload, 1) := by decide +kernel
theorem dX11_encode_146 : decode cX11_encode 146 = .ok (.aload_n 0, 1) := by decide +kernel
theorem dX11_encode_147 : decode cX11_encode 147 = .ok (.getfield 32, 3) := by decide +kernel
theorem dX11_encode_150 : decode cX11_encode 150 = .ok (.iload_n 2, 1) := by decide +kernel
theorem dX11_encode_151 : decode cX11_encode 151 = .ok (.iload_n 3, 1) := by decide +kernel
theorem dX11_encode_152 : decode cX11_encode 152 = .ok (.iadd, 1) := by decide +kernel
theorem dX11_encode_153 : decode cX11_encode 153 = .ok (.laload, 1) := by decide +kernel
theorem dX11_encode_154 : decode cX11_encode 154 = .ok (.lsub, 1) := by decide +kernel
theorem dX11_encode_155 : decode cX11_encode 155 = .ok (.invokestatic 82, 3) := by decide +kernel
theorem dX11_encode_158 : decode cX11_encode 158 = .ok (.lastore, 1) := by decide +kernel
theorem dX11_encode_159 : decode cX11_encode 159 = .ok (.iinc 3 1, 3) := by decide +kernel
theorem dX11_encode_162 : decode cX11_encode 162 = .ok (.goto (-86), 3) := by decide +kernel
theorem dX11_encode_165 : decode cX11_encode 165 = .ok (.aload_n 0, 1) := by decide +kernel
theorem dX11_encode_166 : decode cX11_encode 166 = .ok (.invokevirtual 226, 3) := by decide +kernel
theorem dX11_encode_169 : decode cX11_encode 169 = .ok (.aload_n 0, 1) := by decide +kernel
theorem dX11_encode_170 : decode cX11_encode 170 = .ok (.iload_n 1, 1) := by decide +kernel
theorem dX11_encode_171 : decode cX11_encode 171 = .ok (.invokevirtual 229, 3) := by decide +kernel
theorem dX11_encode_174 : decode cX11_encode 174 = .ok (.aload_n 0, 1) := by decide +kernel
theorem dX11_encode_175 : decode cX11_encode 175 = .ok (.iload_n 1, 1) := by decide +kernel
theorem dX11_encode_176 : decode cX11_encode 176 = .ok (.invokevirtual 232, 3) := by decide +kernel
theorem dX11_encode_179 : decode cX11_encode 179 = .ok (.iconst 0, 1) := by decide +kernel
theorem dX11_encode_180 : decode cX11_encode 180 = .ok (.istore_n 3, 1) := by decide +kernel
theorem dX11_encode_181 : decode cX11_encode 181 = .ok (.iload_n 3, 1) := by decide +kernel
theorem dX11_encode_182 : decode cX11_encode 182 = .ok (.bipush 40, 2) := by decide +kernel
theorem dX11_encode_184 : decode cX11_encode 184 = .ok (.if_icmp .ge 35, 3) := by decide +kernel
theorem dX11_encode_187 : decode cX11_encode 187 = .ok (.aload_n 0, 1) := by decide +kernel
theorem dX11_encode_188 : decode cX11_encode 188 = .ok (.getfield 32, 3) := by decide +kernel
theorem dX11_encode_191 : decode cX11_encode 191 = .ok (.iload_n 2, 1) := by decide +kernel
theorem dX11_encode_192 : decode cX11_encode 192 = .ok (.iload_n 3, 1) := by decide +kernel
theorem dX11_encode_193 : decode cX11_encode 193 = .ok (.iadd, 1) := by decide +kernel
theorem dX11_encode_194 : decode cX11_encode 194 = .ok (.aload_n 0, 1) := by decide +kernel
theorem dX11_encode_195 : decode cX11_encode 195 = .ok (.getfield 32, 3) := by decide +kernel
theorem dX11_encode_198 : decode cX11_encode 198 = .ok (.iload_n 2, 1) := by decide +kernel
theorem dX11_encode_199 : decode cX11_encode 199 = .ok (.iload_n 3, 1) := by decide +kernel
theorem dX11_encode_200 : decode cX11_encode 200 = .ok (.iadd, 1) := by decide +kernel
theorem dX11_encode_201 : decode cX11_encode 201 = .ok (.laload, 1) := by decide +kernel
theorem dX11_encode_202 : decode cX11_encode 202 = .ok (.aload_n 0, 1) := by decide +kernel
theorem dX11_encode_203 : decode cX11_encode 203 = .ok (.getfield 66, 3) := by decide +kernel
theorem dX11_encode_206 : decode cX11_encode 206 = .ok (.iload_n 3, 1) := by decide +kernel
theorem dX11_encode_207 : decode cX11_encode 207 = .ok (.laload, 1) := by decide +kernel
theorem dX11_encode_208 : decode cX11_encode 208 = .ok (.ladd, 1) := by decide +kernel
theorem dX11_encode_209 : decode cX11_encode 209 = .ok (.invokestatic 82, 3) := by decide +kernel
theorem dX11_encode_212 : decode cX11_encode 212 = .ok (.lastore, 1) := by decide +kernel
theorem dX11_encode_213 : decode cX11_encode 213 = .ok (.iinc 3 1, 3) := by decide +kernel
theorem dX11_encode_216 : decode cX11_encode 216 = .ok (.goto (-35), 3) := by decide +kernel
theorem dX11_encode_219 : decode cX11_encode 219 = .ok (.iinc 1 1, 3) := by decide +kernel
theorem dX11_encode_222 : decode cX11_encode 222 = .ok (.goto (-167), 3) := by decide +kernel
theorem dX11_encode_225 : decode cX11_encode 225 = .ok (.aload_n 0, 1) := by decide +kernel
theorem dX11_encode_226 : decode cX11_encode 226 = .ok (.iconst 0, 1) := by decide +kernel
theorem dX11_encode_227 : decode cX11_encode 227 = .ok (.invokevirtual 235, 3) := by decide +kernel
theorem dX11_encode_230 : decode cX11_encode 230 = .ok (.aload_n 0, 1) := by decide +kernel
theorem dX11_encode_231 : decode cX11_encode 231 = .ok (.iconst 0, 1) := by decide +kernel
theorem dX11_encode_232 : decode cX11_encode 232 = .ok (.putfield 88, 3) := by decide +kernel
theorem dX11_encode_235 : decode cX11_encode 235 = .ok (.aload_n 0, 1) := by decide +kernel
theorem dX11_encode_236 : decode cX11_encode 236 = .ok (.dup, 1) := by decide +kernel
theorem dX11_encode_237 : decode cX11_encode 237 = .ok (.getfield 238, 3) := by decide +kernel
theorem dX11_encode_240 : decode cX11_encode 240 = .ok (.iconst 1, 1) := by decide +kernel
theorem dX11_encode_241 : decode cX11_encode 241 = .ok (.iadd, 1) := by decide +kernel
theorem dX11_encode_242 : decode cX11_encode 242 = .ok (.putfield 238, 3) := by decide +kernel
theorem dX11_encode_245 : decode cX11_encode 245 = .ok (.aload_n 0, 1) := by decide +kernel
theorem dX11_encode_246 : decode cX11_encode 246 = .ok (.getfield 238, 3) := by decide +kernel
theorem dX11_encode_249 : decode cX11_encode 249 = .ok (.ireturn, 1) := by decide +kernel
theorem dX11_parameter_0 : decode cX11_parameter 0 = .ok (.aload_n 0, 1) := by decide +kernel
theorem dX11_parameter_1 : decode cX11_parameter 1 = .ok (.iload_n 1, 1) := by decide +kernel
theorem dX11_parameter_2 : decode cX11_parameter 2 = .ok (.ifCond .lt 9, 3) := by decide +kernel
theorem dX11_parameter_5 : decode cX11_parameter 5 = .ok (.iload_n 1, 1) := by decide +kernel
theorem dX11_parameter_6 : decode cX11_parameter 6 = .ok (.bipush 75, 2) := by decide +kernel
theorem dX11_parameter_8 : decode cX11_parameter 8 = .ok (.if_icmp .le 7, 3) := by decide +kernel
theorem dX11_parameter_11 : decode cX11_parameter 11 = .ok (.iconst 1, 1) := by decide +kernel
theorem dX11_parameter_12 : decode cX11_parameter 12 = .ok (.goto 4, 3) := by decide +kernel
theorem dX11_parameter_15 : decode cX11_parameter 15 = .ok (.iconst 0, 1) := by decide +kernel
theorem dX11_parameter_16 : decode cX11_parameter 16 = .ok (.invokevirtual 91, 3) := by decide +kernel
theorem dX11_parameter_19 : decode cX11_parameter 19 = .ok (.ifCond .eq 7, 3) := by decide +kernel
theorem dX11_parameter_22 : decode cX11_parameter 22 = .ok (.iconst 0, 1) := by decide +kernel
theorem dX11_parameter_23 : decode cX11_parameter 23 = .ok (.goto 9, 3) := by decide +kernel
theorem dX11_parameter_26 : decode cX11_parameter 26 = .ok (.aload_n 0, 1) := by decide +kernel
theorem dX11_parameter_27 : decode cX11_parameter 27 = .ok (.getfield 17, 3) := by decide +kernel
theorem dX11_parameter_30 : decode cX11_parameter 30 = .ok (.iload_n 1, 1) := by decide +kernel
theorem dX11_parameter_31 : decode cX11_parameter 31 = .ok (.iaload, 1) := by decide +kernel
theorem dX11_parameter_32 : decode cX11_parameter 32 = .ok (.ireturn, 1) := by decide +kernel
theorem dX11_feed_0 : decode cX11_feed 0 = .ok (.aload_n 0, 1) := by decide +kernel
theorem dX11_feed_1 : decode cX11_feed 1 = .ok (.iload_n 3, 1) := by decide +kernel
theorem dX11_feed_2 : decode cX11_feed 2 = .ok (.ifCond .lt 9, 3) := by decide +kernel
theorem dX11_feed_5 : decode cX11_feed 5 = .ok (.iload_n 3, 1) := by decide +kernel
theorem dX11_feed_6 : decode cX11_feed 6 = .ok (.bipush 8, 2) := by decide +kernel
theorem dX11_feed_8 : decode cX11_feed 8 = .ok (.if_icmp .le 7, 3) := by decide +kernel
theorem dX11_feed_11 : decode cX11_feed 11 = .ok (.iconst 1, 1) := by decide +kernel
theorem dX11_feed_12 : decode cX11_feed 12 = .ok (.goto 19, 3) := by decide +kernel
theorem dX11_feed_15 : decode cX11_feed 15 = .ok (.aload_n 0, 1) := by decide +kernel
theorem dX11_feed_16 : decode cX11_feed 16 = .ok (.getfield 241, 3) := by decide +kernel
theorem dX11_feed_19 : decode cX11_feed 19 = .ok (.iload_n 3, 1) := by decide +kernel
theorem dX11_feed_20 : decode cX11_feed 20 = .ok (.iadd, 1) := by decide +kernel
theorem dX11_feed_21 : decode cX11_feed 21 = .ok (.bipush 33, 2) := by decide +kernel
theorem dX11_feed_23 : decode cX11_feed 23 = .ok (.if_icmp .le 7, 3) := by decide +kernel
theorem dX11_feed_26 : decode cX11_feed 26 = .ok (.iconst 2, 1) := by decide +kernel
theorem dX11_feed_27 : decode cX11_feed 27 = .ok (.goto 4, 3) := by decide +kernel
theorem dX11_feed_30 : decode cX11_feed 30 = .ok (.iconst 0, 1) := by decide +kernel
theorem dX11_feed_31 : decode cX11_feed 31 = .ok (.invokevirtual 91, 3) := by decide +kernel
theorem dX11_feed_34 : decode cX11_feed 34 = .ok (.ifCond .eq 5, 3) := by decide +kernel
theorem dX11_feed_37 : decode cX11_feed 37 = .ok (.iconst 0, 1) := by decide +kernel
theorem dX11_feed_38 : decode cX11_feed 38 = .ok (.ireturn, 1) := by decide +kernel
theorem dX11_feed_39 : decode cX11_feed 39 = .ok (.iconst 0, 1) := by decide +kernel
theorem dX11_feed_40 : decode cX11_feed 40 = .ok (.istore 4, 2) := by decide +kernel
theorem dX11_feed_42 : decode cX11_feed 42 = .ok (.iload 4, 2) := by decide +kernel
theorem dX11_feed_44 : decode cX11_feed 44 = .ok (.iload_n 3, 1) := by decide +kernel
theorem dX11_feed_45 : decode cX11_feed 45 = .ok (.if_icmp .ge 40, 3) := by decide +kernel
theorem dX11_feed_48 : decode cX11_feed 48 = .ok (.aload_n 0, 1) := by decide +kernel
theorem dX11_feed_49 : decode cX11_feed 49 = .ok (.getfield 13, 3) := by decide +kernel
theorem dX11_feed_52 : decode cX11_feed 52 = .ok (.aload_n 0, 1) := by decide +kernel
theorem dX11_feed_53 : decode cX11_feed 53 = .ok (.getfield 241, 3) := by decide +kernel
theorem dX11_feed_56 : decode cX11_feed 56 = .ok (.lload_n 1, 1) := by decide +kernel
theorem dX11_feed_57 : decode cX11_feed 57 = .ok (.bipush 8, 2) := by decide +kernel
theorem dX11_feed_59 : decode cX11_feed 59 = .ok (.iload 4, 2) := by decide +kernel
theorem dX11_feed_61 : decode cX11_feed 61 = .ok (.imul, 1) := by decide +kernel
theorem dX11_feed_62 : decode cX11_feed 62 = .ok (.lshr, 1) := by decide +kernel
theorem dX11_feed_63 : decode cX11_feed 63 = .ok (.ldc2_w 244, 3) := by decide +kernel
theorem dX11_feed_66 : decode cX11_feed 66 = .ok (.land, 1) := by decide +kernel
theorem dX11_feed_67 : decode cX11_feed 67 = .ok (.l2i, 1) := by decide +kernel
theorem dX11_feed_68 : decode cX11_feed 68 = .ok (.iastore, 1) := by decide +kernel
theorem dX11_feed_69 : decode cX11_feed 69 = .ok (.aload_n 0, 1) := by decide +kernel
theorem dX11_feed_70 : decode cX11_feed 70 = .ok (.dup, 1) := by decide +kernel
theorem dX11_feed_71 : decode cX11_feed 71 = .ok (.getfield 241, 3) := by decide +kernel
theorem dX11_feed_74 : decode cX11_feed 74 = .ok (.iconst 1, 1) := by decide +kernel
theorem dX11_feed_75 : decode cX11_feed 75 = .ok (.iadd, 1) := by decide +kernel
theorem dX11_feed_76 : decode cX11_feed 76 = .ok (.putfield 241, 3) := by decide +kernel
theorem dX11_feed_79 : decode cX11_feed 79 = .ok (.iinc 4 1, 3) := by decide +kernel
theorem dX11_feed_82 : decode cX11_feed 82 = .ok (.goto (-40), 3) := by decide +kernel
theorem dX11_feed_85 : decode cX11_feed 85 = .ok (.aload_n 0, 1) := by decide +kernel
theorem dX11_feed_86 : decode cX11_feed 86 = .ok (.getfield 241, 3) := by decide +kernel
theorem dX11_feed_89 : decode cX11_feed 89 = .ok (.ireturn, 1) := by decide +kernel
theorem dX11_take_0 : decode cX11_take 0 = .ok (.aload_n 0, 1) := by decide +kernel
theorem dX11_take_1 : decode cX11_take 1 = .ok (.iconst 0, 1) := by decide +kernel
theorem dX11_take_2 : decode cX11_take 2 = .ok (.putfield 69, 3) := by decide +kernel
theorem dX11_take_5 : decode cX11_take 5 = .ok (.aload_n 0, 1) := by decide +kernel
theorem dX11_take_6 : decode cX11_take 6 = .ok (.bipush 33, 2) := by decide +kernel
theorem dX11_take_8 : decode cX11_take 8 = .ok (.putfield 241, 3) := by decide +kernel
theorem dX11_take_11 : decode cX11_take 11 = .ok (.iconst 0, 1) := by decide +kernel
theorem dX11_take_12 : decode cX11_take 12 = .ok (.istore_n 1, 1) := by decide +kernel
theorem dX11_take_13 : decode cX11_take 13 = .ok (.iload_n 1, 1) := by decide +kernel
theorem dX11_take_14 : decode cX11_take 14 = .ok (.bipush 33, 2) := by decide +kernel
theorem dX11_take_16 : decode cX11_take 16 = .ok (.if_icmp .ge 16, 3) := by decide +kernel
theorem dX11_take_19 : decode cX11_take 19 = .ok (.aload_n 0, 1) := by decide +kernel
theorem dX11_take_20 : decode cX11_take 20 = .ok (.getfield 13, 3) := by decide +kernel
theorem dX11_take_23 : decode cX11_take 23 = .ok (.iload_n 1, 1) := by decide +kernel
theorem dX11_take_24 : decode cX11_take 24 = .ok (.iconst 0, 1) := by decide +kernel
theorem dX11_take_25 : decode cX11_take 25 = .ok (.iastore, 1) := by decide +kernel
theorem dX11_take_26 : decode cX11_take 26 = .ok (.iinc 1 1, 3) := by decide +kernel
theorem dX11_take_29 : decode cX11_take 29 = .ok (.goto (-16), 3) := by decide +kernel
theorem dX11_take_32 : decode cX11_take 32 = .ok (.aload_n 0, 1) := by decide +kernel
theorem dX11_take_33 : decode cX11_take 33 = .ok (.getfield 13, 3) := by decide +kernel
theorem dX11_take_36 : decode cX11_take 36 = .ok (.iconst 0, 1) := by decide +kernel
theorem dX11_take_37 : decode cX11_take 37 = .ok (.sipush 208, 3) := by decide +kernel
theorem dX11_take_40 : decode cX11_take 40 = .ok (.iastore, 1) := by decide +kernel
theorem dX11_take_41 : decode cX11_take 41 = .ok (.iconst 4, 1) := by decide +kernel
theorem dX11_take_42 : decode cX11_take 42 = .ok (.istore_n 1, 1) := by decide +kernel
theorem dX11_take_43 : decode cX11_take 43 = .ok (.iconst 0, 1) := by decide +kernel
theorem dX11_take_44 : decode cX11_take 44 = .ok (.istore_n 2, 1) := by decide +kernel
theorem dX11_take_45 : decode cX11_take 45 = .ok (.iload_n 2, 1) := by decide +kernel
theorem dX11_take_46 : decode cX11_take 46 = .ok (.bipush 76, 2) := by decide +kernel
theorem dX11_take_48 : decode cX11_take 48 = .ok (.if_icmp .ge 59, 3) := by decide +kernel
theorem dX11_take_51 : decode cX11_take 51 = .ok (.iload_n 2, 1) := by decide +kernel
theorem dX11_take_52 : decode cX11_take 52 = .ok (.invokestatic 246, 3) := by decide +kernel
theorem dX11_take_55 : decode cX11_take 55 = .ok (.iconst 1, 1) := by decide +kernel
theorem dX11_take_56 : decode cX11_take 56 = .ok (.isub, 1) := by decide +kernel
theorem dX11_take_57 : decode cX11_take 57 = .ok (.istore_n 3, 1) := by decide +kernel
theorem dX11_take_58 : decode cX11_take 58 = .ok (.iload_n 3, 1) := by decide +kernel
theorem dX11_take_59 : decode cX11_take 59 = .ok (.ifCond .lt 42, 3) := by decide +kernel
theorem dX11_take_62 : decode cX11_take 62 = .ok (.aload_n 0, 1) := by decide +kernel
theorem dX11_take_63 : decode cX11_take 63 = .ok (.getfield 13, 3) := by decide +kernel
theorem dX11_take_66 : decode cX11_take 66 = .ok (.iload_n 1, 1) := by decide +kernel
theorem dX11_take_67 : decode cX11_take 67 = .ok (.bipush 8, 2) := by decide +kernel
theorem dX11_take_69 : decode cX11_take 69 = .ok (.idiv, 1) := by decide +kernel
theorem dX11_take_70 : decode cX11_take 70 = .ok (.dup2, 1) := by decide +kernel
theorem dX11_take_71 : decode cX11_take 71 = .ok (.iaload, 1) := by decide +kernel
theorem dX11_take_72 : decode cX11_take 72 = .ok (.aload_n 0, 1) := by decide +kernel
theorem dX11_take_73 : decode cX11_take 73 = .ok (.getfield 17, 3) := by decide +kernel
theorem dX11_take_76 : decode cX11_take 76 = .ok (.iload_n 2, 1) := by decide +kernel
theorem dX11_take_77 : decode cX11_take 77 = .ok (.iaload, 1) := by decide +kernel
theorem dX11_take_78 : decode cX11_take 78 = .ok (.iload_n 3, 1) := by decide +kernel
theorem dX11_take_79 : decode cX11_take 79 = .ok (.ishr, 1) := by decide +kernel
theorem dX11_take_80 : decode cX11_take 80 = .ok (.iconst 1, 1) := by decide +kernel
theorem dX11_take_81 : decode cX11_take 81 = .ok (.iand, 1) := by decide +kernel
theorem dX11_take_82 : decode cX11_take 82 = .ok (.bipush 7, 2) := by decide +kernel
theorem dX11_take_84 : decode cX11_take 84 = .ok (.iload_n 1, 1) := by decide +kernel
theorem dX11_take_85 : decode cX11_take 85 = .ok (.bipush 8, 2) := by decide +kernel
theorem dX11_take_87 : decode cX11_take 87 = .ok (.irem, 1) := by decide +kernel
theorem dX11_take_88 : decode cX11_take 88 = .ok (.isub, 1) := by decide +kernel
theorem dX11_take_89 : decode cX11_take 89 = .ok (.ishl, 1) := by decide +kernel
theorem dX11_take_90 : decode cX11_take 90 = .ok (.iadd, 1) := by decide +kernel
theorem dX11_take_91 : decode cX11_take 91 = .ok (.iastore, 1) := by decide +kernel
theorem dX11_take_92 : decode cX11_take 92 = .ok (.iinc 1 1, 3) := by decide +kernel
theorem dX11_take_95 : decode cX11_take 95 = .ok (.iinc 3 (-1), 3) := by decide +kernel
theorem dX11_take_98 : decode cX11_take 98 = .ok (.goto (-40), 3) := by decide +kernel
theorem dX11_take_101 : decode cX11_take 101 = .ok (.iinc 2 1, 3) := by decide +kernel
theorem dX11_take_104 : decode cX11_take 104 = .ok (.goto (-59), 3) := by decide +kernel
theorem dX11_take_107 : decode cX11_take 107 = .ok (.bipush 33, 2) := by decide +kernel
theorem dX11_take_109 : decode cX11_take 109 = .ok (.ireturn, 1) := by decide +kernel
theorem dX11_hand_0 : decode cX11_hand 0 = .ok (.aload_n 0, 1) := by decide +kernel
theorem dX11_hand_1 : decode cX11_hand 1 = .ok (.iconst 0, 1) := by decide +kernel
theorem dX11_hand_2 : decode cX11_hand 2 = .ok (.putfield 69, 3) := by decide +kernel
theorem dX11_hand_5 : decode cX11_hand 5 = .ok (.iload_n 1, 1) := by decide +kernel
theorem dX11_hand_6 : decode cX11_hand 6 = .ok (.ifCond .lt 20, 3) := by decide +kernel
theorem dX11_hand_9 : decode cX11_hand 9 = .ok (.iload_n 1, 1) := by decide +kernel
theorem dX11_hand_10 : decode cX11_hand 10 = .ok (.aload_n 0, 1) := by decide +kernel
theorem dX11_hand_11 : decode cX11_hand 11 = .ok (.getfield 241, 3) := by decide +kernel
theorem dX11_hand_14 : decode cX11_hand 14 = .ok (.if_icmp .ge 12, 3) := by decide +kernel
theorem dX11_hand_17 : decode cX11_hand 17 = .ok (.aload_n 0, 1) := by decide +kernel
theorem dX11_hand_18 : decode cX11_hand 18 = .ok (.getfield 13, 3) := by decide +kernel
theorem dX11_hand_21 : decode cX11_hand 21 = .ok (.iload_n 1, 1) := by decide +kernel
theorem dX11_hand_22 : decode cX11_hand 22 = .ok (.iaload, 1) := by decide +kernel
theorem dX11_hand_23 : decode cX11_hand 23 = .ok (.goto 4, 3) := by decide +kernel
theorem dX11_hand_26 : decode cX11_hand 26 = .ok (.iconst (-1), 1) := by decide +kernel
theorem dX11_hand_27 : decode cX11_hand 27 = .ok (.ireturn, 1) := by decide +kernel
theorem dX11_decode_0 : decode cX11_decode 0 = .ok (.aload_n 0, 1) := by decide +kernel
theorem dX11_decode_1 : decode cX11_decode 1 = .ok (.iconst 0, 1) := by decide +kernel
theorem dX11_decode_2 : decode cX11_decode 2 = .ok (.putfield 69, 3) := by decide +kernel
theorem dX11_decode_5 : decode cX11_decode 5 = .ok (.aload_n 0, 1) := by decide +kernel
theorem dX11_decode_6 : decode cX11_decode 6 = .ok (.getfield 241, 3) := by decide +kernel
theorem dX11_decode_9 : decode cX11_decode 9 = .ok (.bipush 33, 2) := by decide +kernel
theorem dX11_decode_11 : decode cX11_decode 11 = .ok (.if_icmp .ne 20, 3) := by decide +kernel
theorem dX11_decode_14 : decode cX11_decode 14 = .ok (.aload_n 0, 1) := by decide +kernel
theorem dX11_decode_15 : decode cX11_decode 15 = .ok (.getfield 13, 3) := by decide +kernel
theorem dX11_decode_18 : decode cX11_decode 18 = .ok (.iconst 0, 1) := by decide +kernel
theorem dX11_decode_19 : decode cX11_decode 19 = .ok (.iaload, 1) := by decide +kernel
theorem dX11_decode_20 : decode cX11_decode 20 = .ok (.iconst 4, 1) := by decide +kernel
theorem dX11_decode_21 : decode cX11_decode 21 = .ok (.ishr, 1) := by decide +kernel
theorem dX11_decode_22 : decode cX11_decode 22 = .ok (.bipush 13, 2) := by decide +kernel
theorem dX11_decode_24 : decode cX11_decode 24 = .ok (.if_icmp .ne 7, 3) := by decide +kernel
theorem dX11_decode_27 : decode cX11_decode 27 = .ok (.iconst 1, 1) := by decide +kernel
theorem dX11_decode_28 : decode cX11_decode 28 = .ok (.goto 4, 3) := by decide +kernel
theorem dX11_decode_31 : decode cX11_decode 31 = .ok (.iconst 0, 1) := by decide +kernel
theorem dX11_decode_32 : decode cX11_decode 32 = .ok (.istore_n 1, 1) := by decide +kernel
theorem dX11_decode_33 : decode cX11_decode 33 = .ok (.aload_n 0, 1) := by decide +kernel
theorem dX11_decode_34 : decode cX11_decode 34 = .ok (.iconst 0, 1) := by decide +kernel
theorem dX11_decode_35 : decode cX11_decode 35 = .ok (.putfield 241, 3) := by decide +kernel
theorem dX11_decode_38 : decode cX11_decode 38 = .ok (.iload_n 1, 1) := by decide +kernel
theorem dX11_decode_39 : decode cX11_decode 39 = .ok (.ifCond .ne 5, 3) := by decide +kernel
theorem dX11_decode_42 : decode cX11_decode 42 = .ok (.iconst (-1), 1) := by decide +kernel
theorem dX11_decode_43 : decode cX11_decode 43 = .ok (.ireturn, 1) := by decide +kernel
theorem dX11_decode_44 : decode cX11_decode 44 = .ok (.iconst 4, 1) := by decide +kernel
theorem dX11_decode_45 : decode cX11_decode 45 = .ok (.istore_n 2, 1) := by decide +kernel
theorem dX11_decode_46 : decode cX11_decode 46 = .ok (.iconst 0, 1) := by decide +kernel
theorem dX11_decode_47 : decode cX11_decode 47 = .ok (.istore_n 3, 1) := by decide +kernel
theorem dX11_decode_48 : decode cX11_decode 48 = .ok (.iload_n 3, 1) := by decide +kernel
theorem dX11_decode_49 : decode cX11_decode 49 = .ok (.bipush 76, 2) := by decide +kernel
theorem dX11_decode_51 : decode cX11_decode 51 = .ok (.if_icmp .ge 70, 3) := by decide +kernel
theorem dX11_decode_54 : decode cX11_decode 54 = .ok (.aload_n 0, 1) := by decide +kernel
theorem dX11_decode_55 : decode cX11_decode 55 = .ok (.getfield 17, 3) := by decide +kernel
theorem dX11_decode_58 : decode cX11_decode 58 = .ok (.iload_n 3, 1) := by decide +kernel
theorem dX11_decode_59 : decode cX11_decode 59 = .ok (.iconst 0, 1) := by decide +kernel
theorem dX11_decode_60 : decode cX11_decode 60 = .ok (.iastore, 1) := by decide +kernel
theorem dX11_decode_61 : decode cX11_decode 61 = .ok (.iload_n 3, 1) := by decide +kernel
theorem dX11_decode_62 : decode cX11_decode 62 = .ok (.invokestatic 246, 3) := by decide +kernel
theorem dX11_decode_65 : decode cX11_decode 65 = .ok (.istore 4, 2) := by decide +kernel
theorem dX11_decode_67 : decode cX11_decode 67 = .ok (.iload 4, 2) := by decide +kernel
theorem dX11_decode_69 : decode cX11_decode 69 = .ok (.ifCond .le 46, 3) := by decide +kernel
theorem dX11_decode_72 : decode cX11_decode 72 = .ok (.aload_n 0, 1) := by decide +kernel
theorem dX11_decode_73 : decode cX11_decode 73 = .ok (.getfield 17, 3) := by decide +kernel
theorem dX11_decode_76 : decode cX11_decode 76 = .ok (.iload_n 3, 1) := by decide +kernel
theorem dX11_decode_77 : decode cX11_decode 77 = .ok (.iconst 2, 1) := by decide +kernel
theorem dX11_decode_78 : decode cX11_decode 78 = .ok (.aload_n 0, 1) := by decide +kernel
theorem dX11_decode_79 : decode cX11_decode 79 = .ok (.getfield 17, 3) := by decide +kernel
theorem dX11_decode_82 : decode cX11_decode 82 = .ok (.iload_n 3, 1) := by decide +kernel
theorem dX11_decode_83 : decode cX11_decode 83 = .ok (.iaload, 1) := by decide +kernel
theorem dX11_decode_84 : decode cX11_decode 84 = .ok (.imul, 1) := by decide +kernel
theorem dX11_decode_85 : decode cX11_decode 85 = .ok (.aload_n 0, 1) := by decide +kernel
theorem dX11_decode_86 : decode cX11_decode 86 = .ok (.getfield 13, 3) := by decide +kernel
theorem dX11_decode_89 : decode cX11_decode 89 = .ok (.iload_n 2, 1) := by decide +kernel
theorem dX11_decode_90 : decode cX11_decode 90 = .ok (.bipush 8, 2) := by decide +kernel
theorem dX11_decode_92 : decode cX11_decode 92 = .ok (.idiv, 1) := by decide +kernel
theorem dX11_decode_93 : decode cX11_decode 93 = .ok (.iaload, 1) := by decide +kernel
theorem dX11_decode_94 : decode cX11_decode 94 = .ok (.bipush 7, 2) := by decide +kernel
theorem dX11_decode_96 : decode cX11_decode 96 = .ok (.iload_n 2, 1) := by decide +kernel
theorem dX11_decode_97 : decode cX11_decode 97 = .ok (.bipush 8, 2) := by decide +kernel
theorem dX11_decode_99 : decode cX11_decode 99 = .ok (.irem, 1) := by decide +kernel
theorem dX11_decode_100 : decode cX11_decode 100 = .ok (.isub, 1) := by decide +kernel
theorem dX11_decode_101 : decode cX11_decode 101 = .ok (.ishr, 1) := by decide +kernel
theorem dX11_decode_102 : decode cX11_decode 102 = .ok (.iconst 1, 1) := by decide +kernel
theorem dX11_decode_103 : decode cX11_decode 103 = .ok (.iand, 1) := by decide +kernel
theorem dX11_decode_104 : decode cX11_decode 104 = .ok (.iadd, 1) := by decide +kernel
theorem dX11_decode_105 : decode cX11_decode 105 = .ok (.iastore, 1) := by decide +kernel
theorem dX11_decode_106 : decode cX11_decode 106 = .ok (.iinc 2 1, 3) := by decide +kernel
theorem dX11_decode_109 : decode cX11_decode 109 = .ok (.iinc 4 (-1), 3) := by decide +kernel
theorem dX11_decode_112 : decode cX11_decode 112 = .ok (.goto (-45), 3) := by decide +kernel
theorem dX11_decode_115 : decode cX11_decode 115 = .ok (.iinc 3 1, 3) := by decide +kernel
theorem dX11_decode_118 : decode cX11_decode 118 = .ok (.goto (-70), 3) := by decide +kernel
theorem dX11_decode_121 : decode cX11_decode 121 = .ok (.iconst 0, 1) := by decide +kernel
theorem dX11_decode_122 : decode cX11_decode 122 = .ok (.istore_n 3, 1) := by decide +kernel
theorem dX11_decode_123 : decode cX11_decode 123 = .ok (.iload_n 3, 1) := by decide +kernel
theorem dX11_decode_124 : decode cX11_decode 124 = .ok (.iconst 4, 1) := by decide +kernel
theorem dX11_decode_125 : decode cX11_decode 125 = .ok (.if_icmp .ge 136, 3) := by decide +kernel
theorem dX11_decode_128 : decode cX11_decode 128 = .ok (.aload_n 0, 1) := by decide +kernel
theorem dX11_decode_129 : decode cX11_decode 129 = .ok (.getfield 17, 3) := by decide +kernel
theorem dX11_decode_132 : decode cX11_decode 132 = .ok (.bipush 8, 2) := by decide +kernel
theorem dX11_decode_134 : decode cX11_decode 134 = .ok (.bipush 17, 2) := by decide +kernel
theorem dX11_decode_136 : decode cX11_decode 136 = .ok (.iload_n 3, 1) := by decide +kernel
theorem dX11_decode_137 : decode cX11_decode 137 = .ok (.imul, 1) := by decide +kernel
theorem dX11_decode_138 : decode cX11_decode 138 = .ok (.iadd, 1) := by decide +kernel
theorem dX11_decode_139 : decode cX11_decode 139 = .ok (.iaload, 1) := by decide +kernel
theorem dX11_decode_140 : decode cX11_decode 140 = .ok (.istore 4, 2) := by decide +kernel
theorem dX11_decode_142 : decode cX11_decode 142 = .ok (.aload_n 0, 1) := by decide +kernel
theorem dX11_decode_143 : decode cX11_decode 143 = .ok (.iload 4, 2) := by decide +kernel
theorem dX11_decode_145 : decode cX11_decode 145 = .ok (.bipush 39, 2) := by decide +kernel
theorem dX11_decode_147 : decode cX11_decode 147 = .ok (.if_icmp .le 15, 3) := by decide +kernel
theorem dX11_decode_150 : decode cX11_decode 150 = .ok (.iload 4, 2) := by decide +kernel
theorem dX11_decode_152 : decode cX11_decode 152 = .ok (.bipush 121, 2) := by decide +kernel
theorem dX11_decode_154 : decode cX11_decode 154 = .ok (.if_icmp .ge 8, 3) := by decide +kernel
theorem dX11_decode_157 : decode cX11_decode 157 = .ok (.iload 4, 2) := by decide +kernel
theorem dX11_decode_159 : decode cX11_decode 159 = .ok (.goto 7, 3) := by decide +kernel
theorem dX11_decode_162 : decode cX11_decode 162 = .ok (.aload_n 0, 1) := by decide +kernel
theorem dX11_decode_163 : decode cX11_decode 163 = .ok (.getfield 35, 3) := by decide +kernel
theorem dX11_decode_166 : decode cX11_decode 166 = .ok (.putfield 35, 3) := by decide +kernel
theorem dX11_decode_169 : decode cX11_decode 169 = .ok (.aload_n 0, 1) := by decide +kernel
theorem dX11_decode_170 : decode cX11_decode 170 = .ok (.iload_n 3, 1) := by decide +kernel
theorem dX11_decode_171 : decode cX11_decode 171 = .ok (.invokevirtual 232, 3) := by decide +kernel
theorem dX11_decode_174 : decode cX11_decode 174 = .ok (.sipush 400, 3) := by decide +kernel
theorem dX11_decode_177 : decode cX11_decode 177 = .ok (.bipush 40, 2) := by decide +kernel
theorem dX11_decode_179 : decode cX11_decode 179 = .ok (.iload_n 3, 1) := by decide +kernel
theorem dX11_decode_180 : decode cX11_decode 180 = .ok (.imul, 1) := by decide +kernel
theorem dX11_decode_181 : decode cX11_decode 181 = .ok (.iadd, 1) := by decide +kernel
theorem dX11_decode_182 : decode cX11_decode 182 = .ok (.istore 5, 2) := by decide +kernel
theorem dX11_decode_184 : decode cX11_decode 184 = .ok (.iconst 0, 1) := by decide +kernel
theorem dX11_decode_185 : decode cX11_decode 185 = .ok (.istore 6, 2) := by decide +kernel
theorem dX11_decode_187 : decode cX11_decode 187 = .ok (.iload 6, 2) := by decide +kernel
theorem dX11_decode_189 : decode cX11_decode 189 = .ok (.bipush 40, 2) := by decide +kernel
theorem dX11_decode_191 : decode cX11_decode 191 = .ok (.if_icmp .ge 64, 3) := by decide +kernel
theorem dX11_decode_194 : decode cX11_decode 194 = .ok (.aload_n 0, 1) := by decide +kernel
theorem dX11_decode_195 : decode cX11_decode 195 = .ok (.getfield 32, 3) := by decide +kernel
theorem dX11_decode_198 : decode cX11_decode 198 = .ok (.iload 5, 2) := by decide +kernel
theorem dX11_decode_200 : decode cX11_decode 200 = .ok (.iload 6, 2) := by decide +kernel
theorem dX11_decode_202 : decode cX11_decode 202 = .ok (.iadd, 1) := by decide +kernel
theorem dX11_decode_203 : decode cX11_decode 203 = .ok (.aload_n 0, 1) := by decide +kernel
theorem dX11_decode_204 : decode cX11_decode 204 = .ok (.getfield 66, 3) := by decide +kernel
theorem dX11_decode_207 : decode cX11_decode 207 = .ok (.iload 6, 2) := by decide +kernel
theorem dX11_decode_209 : decode cX11_decode 209 = .ok (.laload, 1) := by decide +kernel
theorem dX11_decode_210 : decode cX11_decode 210 = .ok (.aload_n 0, 1) := by decide +kernel
theorem dX11_decode_211 : decode cX11_decode 211 = .ok (.getfield 17, 3) := by decide +kernel
theorem dX11_decode_214 : decode cX11_decode 214 = .ok (.bipush 9, 2) := by decide +kernel
theorem dX11_decode_216 : decode cX11_decode 216 = .ok (.bipush 17, 2) := by decide +kernel
theorem dX11_decode_218 : decode cX11_decode 218 = .ok (.iload_n 3, 1) := by decide +kernel
theorem dX11_decode_219 : decode cX11_decode 219 = .ok (.imul, 1) := by decide +kernel
theorem dX11_decode_220 : decode cX11_decode 220 = .ok (.iadd, 1) := by decide +kernel
theorem dX11_decode_221 : decode cX11_decode 221 = .ok (.iaload, 1) := by decide +kernel
theorem dX11_decode_222 : decode cX11_decode 222 = .ok (.invokestatic 223, 3) := by decide +kernel
theorem dX11_decode_225 : decode cX11_decode 225 = .ok (.i2l, 1) := by decide +kernel
theorem dX11_decode_226 : decode cX11_decode 226 = .ok (.aload_n 0, 1) := by decide +kernel
theorem dX11_decode_227 : decode cX11_decode 227 = .ok (.getfield 32, 3) := by decide +kernel
theorem dX11_decode_230 : decode cX11_decode 230 = .ok (.iload 5, 2) := by decide +kernel
theorem dX11_decode_232 : decode cX11_decode 232 = .ok (.iload 6, 2) := by decide +kernel
theorem dX11_decode_234 : decode cX11_decode 234 = .ok (.iadd, 1) := by decide +kernel
theorem dX11_decode_235 : decode cX11_decode 235 = .ok (.aload_n 0, 1) := by decide +kernel
theorem dX11_decode_236 : decode cX11_decode 236 = .ok (.getfield 35, 3) := by decide +kernel
theorem dX11_decode_239 : decode cX11_decode 239 = .ok (.isub, 1) := by decide +kernel
theorem dX11_decode_240 : decode cX11_decode 240 = .ok (.laload, 1) := by decide +kernel
theorem dX11_decode_241 : decode cX11_decode 241 = .ok (.invokestatic 112, 3) := by decide +kernel
theorem dX11_decode_244 : decode cX11_decode 244 = .ok (.ladd, 1) := by decide +kernel
theorem dX11_decode_245 : decode cX11_decode 245 = .ok (.invokestatic 82, 3) := by decide +kernel
theorem dX11_decode_248 : decode cX11_decode 248 = .ok (.lastore, 1) := by decide +kernel
theorem dX11_decode_249 : decode cX11_decode 249 = .ok (.iinc 6 1, 3) := by decide +kernel
theorem dX11_decode_252 : decode cX11_decode 252 = .ok (.goto (-65), 3) := by decide +kernel
theorem dX11_decode_255 : decode cX11_decode 255 = .ok (.iinc 3 1, 3) := by decide +kernel
theorem dX11_decode_258 : decode cX11_decode 258 = .ok (.goto (-135), 3) := by decide +kernel
theorem dX11_decode_261 : decode cX11_decode 261 = .ok (.aload_n 0, 1) := by decide +kernel
theorem dX11_decode_262 : decode cX11_decode 262 = .ok (.invokevirtual 211, 3) := by decide +kernel
theorem dX11_decode_265 : decode cX11_decode 265 = .ok (.iconst 0, 1) := by decide +kernel
theorem dX11_decode_266 : decode cX11_decode 266 = .ok (.istore_n 3, 1) := by decide +kernel
theorem dX11_decode_267 : decode cX11_decode 267 = .ok (.iload_n 3, 1) := by decide +kernel
theorem dX11_decode_268 : decode cX11_decode 268 = .ok (.sipush 160, 3) := by decide +kernel
theorem dX11_decode_271 : decode cX11_decode 271 = .ok (.if_icmp .ge 175, 3) := by decide +kernel
theorem dX11_decode_274 : decode cX11_decode 274 = .ok (.iload_n 3, 1) := by decide +kernel
theorem dX11_decode_275 : decode cX11_decode 275 = .ok (.ifCond .eq 21, 3) := by decide +kernel
theorem dX11_decode_278 : decode cX11_decode 278 = .ok (.iload_n 3, 1) := by decide +kernel
theorem dX11_decode_279 : decode cX11_decode 279 = .ok (.bipush 13, 2) := by decide +kernel
theorem dX11_decode_281 : decode cX11_decode 281 = .ok (.if_icmp .eq 15, 3) := by decide +kernel
theorem dX11_decode_284 : decode cX11_decode 284 = .ok (.iload_n 3, 1) := by decide +kernel
theorem dX11_decode_285 : decode cX11_decode 285 = .ok (.bipush 27, 2) := by decide +kernel
theorem dX11_decode_287 : decode cX11_decode 287 = .ok (.if_icmp .eq 9, 3) := by decide +kernel
theorem dX11_decode_290 : decode cX11_decode 290 = .ok (.iload_n 3, 1) := by decide +kernel
theorem dX11_decode_291 : decode cX11_decode 291 = .ok (.bipush 40, 2) := by decide +kernel
theorem dX11_decode_293 : decode cX11_decode 293 = .ok (.if_icmp .ne 10, 3) := by decide +kernel
theorem dX11_decode_296 : decode cX11_decode 296 = .ok (.aload_n 0, 1) := by decide +kernel
theorem dX11_decode_297 : decode cX11_decode 297 = .ok (.iload_n 3, 1) := by decide +kernel
theorem dX11_decode_298 : decode cX11_decode 298 = .ok (.bipush 8, 2) := by decide +kernel
theorem dX11_decode_300 : decode cX11_decode 300 = .ok (.invokevirtual 167, 3) := by decide +kernel
theorem dX11_decode_303 : decode cX11_decode 303 = .ok (.aload_n 0, 1) := by decide +kernel
theorem dX11_decode_304 : decode cX11_decode 304 = .ok (.getfield 32, 3) := by decide +kernel
theorem dX11_decode_307 : decode cX11_decode 307 = .ok (.sipush 400, 3) := by decide +kernel
theorem dX11_decode_310 : decode cX11_decode 310 = .ok (.iload_n 3, 1) := by decide +kernel
theorem dX11_decode_311 : decode cX11_decode 311 = .ok (.iadd, 1) := by decide +kernel
theorem dX11_decode_312 : decode cX11_decode 312 = .ok (.laload, 1) := by decide +kernel
theorem dX11_decode_313 : decode cX11_decode 313 = .ok (.lstore 4, 2) := by decide +kernel
theorem dX11_decode_315 : decode cX11_decode 315 = .ok (.bipush 8, 2) := by decide +kernel
theorem dX11_decode_317 : decode cX11_decode 317 = .ok (.istore 6, 2) := by decide +kernel
theorem dX11_decode_319 : decode cX11_decode 319 = .ok (.iload 6, 2) := by decide +kernel
theorem dX11_decode_321 : decode cX11_decode 321 = .ok (.ifCond .le 68, 3) := by decide +kernel
theorem dX11_decode_324 : decode cX11_decode 324 = .ok (.lload 4, 2) := by decide +kernel
theorem dX11_decode_326 : decode cX11_decode 326 = .ok (.aload_n 0, 1) := by decide +kernel
theorem dX11_decode_327 : decode cX11_decode 327 = .ok (.getfield 60, 3) := by decide +kernel
theorem dX11_decode_330 : decode cX11_decode 330 = .ok (.iload 6, 2) := by decide +kernel
theorem dX11_decode_332 : decode cX11_decode 332 = .ok (.laload, 1) := by decide +kernel
theorem dX11_decode_333 : decode cX11_decode 333 = .ok (.aload_n 0, 1) := by decide +kernel
theorem dX11_decode_334 : decode cX11_decode 334 = .ok (.getfield 29, 3) := by decide +kernel
theorem dX11_decode_337 : decode cX11_decode 337 = .ok (.iload 6, 2) := by decide +kernel
theorem dX11_decode_339 : decode cX11_decode 339 = .ok (.iconst 1, 1) := by decide +kernel
theorem dX11_decode_340 : decode cX11_decode 340 = .ok (.isub, 1) := by decide +kernel
theorem dX11_decode_341 : decode cX11_decode 341 = .ok (.laload, 1) := by decide +kernel
theorem dX11_decode_342 : decode cX11_decode 342 = .ok (.invokestatic 112, 3) := by decide +kernel
theorem dX11_decode_345 : decode cX11_decode 345 = .ok (.lsub, 1) := by decide +kernel
theorem dX11_decode_346 : decode cX11_decode 346 = .ok (.invokestatic 82, 3) := by decide +kernel
theorem dX11_decode_349 : decode cX11_decode 349 = .ok (.lstore 4, 2) := by decide +kernel
theorem dX11_decode_351 : decode cX11_decode 351 = .ok (.aload_n 0, 1) := by decide +kernel
theorem dX11_decode_352 : decode cX11_decode 352 = .ok (.getfield 29, 3) := by decide +kernel
theorem dX11_decode_355 : decode cX11_decode 355 = .ok (.iload 6, 2) := by decide +kernel
theorem dX11_decode_357 : decode cX11_decode 357 = .ok (.aload_n 0, 1) := by decide +kernel
theorem dX11_decode_358 : decode cX11_decode 358 = .ok (.getfield 29, 3) := by decide +kernel
theorem dX11_decode_361 : decode cX11_decode 361 = .ok (.iload 6, 2) := by decide +kernel
theorem dX11_decode_363 : decode cX11_decode 363 = .ok (.iconst 1, 1) := by decide +kernel
theorem dX11_decode_364 : decode cX11_decode 364 = .ok (.isub, 1) := by decide +kernel
theorem dX11_decode_365 : decode cX11_decode 365 = .ok (.laload, 1) := by decide +kernel
theorem dX11_decode_366 : decode cX11_decode 366 = .ok (.aload_n 0, 1) := by decide +kernel
theorem dX11_decode_367 : decode cX11_decode 367 = .ok (.getfield 60, 3) := by decide +kernel
theorem dX11_decode_370 : decode cX11_decode 370 = .ok (.iload 6, 2) := by decide +kernel
theorem dX11_decode_372 : decode cX11_decode 372 = .ok (.laload, 1) := by decide +kernel
theorem dX11_decode_373 : decode cX11_decode 373 = .ok (.lload 4, 2) := by decide +kernel
theorem dX11_decode_375 : decode cX11_decode 375 = .ok (.invokestatic 112, 3) := by decide +kernel
theorem dX11_decode_378 : decode cX11_decode 378 = .ok (.ladd, 1) := by decide +kernel
theorem dX11_decode_379 : decode cX11_decode 379 = .ok (.invokestatic 82, 3) := by decide +kernel
theorem dX11_decode_382 : decode cX11_decode 382 = .ok (.lastore, 1) := by decide +kernel
theorem dX11_decode_383 : decode cX11_decode 383 = .ok (.iinc 6 (-1), 3) := by decide +kernel
theorem dX11_decode_386 : decode cX11_decode 386 = .ok (.goto (-67), 3) := by decide +kernel
theorem dX11_decode_389 : decode cX11_decode 389 = .ok (.aload_n 0, 1) := by decide +kernel
theorem dX11_decode_390 : decode cX11_decode 390 = .ok (.getfield 29, 3) := by decide +kernel
theorem dX11_decode_393 : decode cX11_decode 393 = .ok (.iconst 0, 1) := by decide +kernel
theorem dX11_decode_394 : decode cX11_decode 394 = .ok (.lload 4, 2) := by decide +kernel
theorem dX11_decode_396 : decode cX11_decode 396 = .ok (.lastore, 1) := by decide +kernel
theorem dX11_decode_397 : decode cX11_decode 397 = .ok (.aload_n 0, 1) := by decide +kernel
theorem dX11_decode_398 : decode cX11_decode 398 = .ok (.lload 4, 2) := by decide +kernel
theorem dX11_decode_400 : decode cX11_decode 400 = .ok (.aload_n 0, 1) := by decide +kernel
theorem dX11_decode_401 : decode cX11_decode 401 = .ok (.getfield 249, 3) := by decide +kernel
theorem dX11_decode_404 : decode cX11_decode 404 = .ok (.ldc2_w 252, 3) := by decide +kernel
theorem dX11_decode_407 : decode cX11_decode 407 = .ok (.invokestatic 112, 3) := by decide +kernel
theorem dX11_decode_410 : decode cX11_decode 410 = .ok (.ladd, 1) := by decide +kernel
theorem dX11_decode_411 : decode cX11_decode 411 = .ok (.invokestatic 82, 3) := by decide +kernel
theorem dX11_decode_414 : decode cX11_decode 414 = .ok (.putfield 249, 3) := by decide +kernel
theorem dX11_decode_417 : decode cX11_decode 417 = .ok (.aload_n 0, 1) := by decide +kernel
theorem dX11_decode_418 : decode cX11_decode 418 = .ok (.getfield 20, 3) := by decide +kernel
theorem dX11_decode_421 : decode cX11_decode 421 = .ok (.iload_n 3, 1) := by decide +kernel
theorem dX11_decode_422 : decode cX11_decode 422 = .ok (.ldc2_w 135, 3) := by decide +kernel
theorem dX11_decode_425 : decode cX11_decode 425 = .ok (.aload_n 0, 1) := by decide +kernel
theorem dX11_decode_426 : decode cX11_decode 426 = .ok (.getfield 249, 3) := by decide +kernel
theorem dX11_decode_429 : decode cX11_decode 429 = .ok (.lmul, 1) := by decide +kernel
theorem dX11_decode_430 : decode cX11_decode 430 = .ok (.invokestatic 82, 3) := by decide +kernel
theorem dX11_decode_433 : decode cX11_decode 433 = .ok (.iconst 3, 1) := by decide +kernel
theorem dX11_decode_434 : decode cX11_decode 434 = .ok (.lshr, 1) := by decide +kernel
theorem dX11_decode_435 : decode cX11_decode 435 = .ok (.l2i, 1) := by decide +kernel
theorem dX11_decode_436 : decode cX11_decode 436 = .ok (.bipush 8, 2) := by decide +kernel
theorem dX11_decode_438 : decode cX11_decode 438 = .ok (.imul, 1) := by decide +kernel
theorem dX11_decode_439 : decode cX11_decode 439 = .ok (.iastore, 1) := by decide +kernel
theorem dX11_decode_440 : decode cX11_decode 440 = .ok (.iinc 3 1, 3) := by decide +kernel
theorem dX11_decode_443 : decode cX11_decode 443 = .ok (.goto (-176), 3) := by decide +kernel
theorem dX11_decode_446 : decode cX11_decode 446 = .ok (.aload_n 0, 1) := by decide +kernel
theorem dX11_decode_447 : decode cX11_decode 447 = .ok (.bipush 8, 2) := by decide +kernel
theorem dX11_decode_449 : decode cX11_decode 449 = .ok (.invokevirtual 217, 3) := by decide +kernel
theorem dX11_decode_452 : decode cX11_decode 452 = .ok (.aload_n 0, 1) := by decide +kernel
theorem dX11_decode_453 : decode cX11_decode 453 = .ok (.sipush 280, 3) := by decide +kernel
theorem dX11_decode_456 : decode cX11_decode 456 = .ok (.invokevirtual 235, 3) := by decide +kernel
theorem dX11_decode_459 : decode cX11_decode 459 = .ok (.aload_n 0, 1) := by decide +kernel
theorem dX11_decode_460 : decode cX11_decode 460 = .ok (.dup, 1) := by decide +kernel
theorem dX11_decode_461 : decode cX11_decode 461 = .ok (.getfield 254, 3) := by decide +kernel
theorem dX11_decode_464 : decode cX11_decode 464 = .ok (.iconst 1, 1) := by decide +kernel
theorem dX11_decode_465 : decode cX11_decode 465 = .ok (.iadd, 1) := by decide +kernel
theorem dX11_decode_466 : decode cX11_decode 466 = .ok (.putfield 254, 3) := by decide +kernel
theorem dX11_decode_469 : decode cX11_decode 469 = .ok (.aload_n 0, 1) := by decide +kernel
theorem dX11_decode_470 : decode cX11_decode 470 = .ok (.getfield 254, 3) := by decide +kernel
theorem dX11_decode_473 : decode cX11_decode 473 = .ok (.ireturn, 1) := by decide +kernel
theorem dX11_sample_0 : decode cX11_sample 0 = .ok (.aload_n 0, 1) := by decide +kernel
theorem dX11_sample_1 : decode cX11_sample 1 = .ok (.iload_n 1, 1) := by decide +kernel
theorem dX11_sample_2 : decode cX11_sample 2 = .ok (.ifCond .lt 10, 3) := by decide +kernel
theorem dX11_sample_5 : decode cX11_sample 5 = .ok (.iload_n 1, 1) := by decide +kernel
theorem dX11_sample_6 : decode cX11_sample 6 = .ok (.sipush 159, 3) := by decide +kernel
theorem dX11_sample_9 : decode cX11_sample 9 = .ok (.if_icmp .le 7, 3) := by decide +kernel
theorem dX11_sample_12 : decode cX11_sample 12 = .ok (.iconst 1, 1) := by decide +kernel
theorem dX11_sample_13 : decode cX11_sample 13 = .ok (.goto 4, 3) := by decide +kernel
theorem dX11_sample_16 : decode cX11_sample 16 = .ok (.iconst 0, 1) := by decide +kernel
theorem dX11_sample_17 : decode cX11_sample 17 = .ok (.invokevirtual 91, 3) := by decide +kernel
theorem dX11_sample_20 : decode cX11_sample 20 = .ok (.ifCond .eq 7, 3) := by decide +kernel
theorem dX11_sample_23 : decode cX11_sample 23 = .ok (.iconst 0, 1) := by decide +kernel
theorem dX11_sample_24 : decode cX11_sample 24 = .ok (.goto 9, 3) := by decide +kernel
theorem dX11_sample_27 : decode cX11_sample 27 = .ok (.aload_n 0, 1) := by decide +kernel
theorem dX11_sample_28 : decode cX11_sample 28 = .ok (.getfield 20, 3) := by decide +kernel
theorem dX11_sample_31 : decode cX11_sample 31 = .ok (.iload_n 1, 1) := by decide +kernel
theorem dX11_sample_32 : decode cX11_sample 32 = .ok (.iaload, 1) := by decide +kernel
theorem dX11_sample_33 : decode cX11_sample 33 = .ok (.ireturn, 1) := by decide +kernel
theorem dX11_reset_0 : decode cX11_reset 0 = .ok (.aload_n 0, 1) := by decide +kernel
theorem dX11_reset_1 : decode cX11_reset 1 = .ok (.iload_n 1, 1) := by decide +kernel
theorem dX11_reset_2 : decode cX11_reset 2 = .ok (.ifCond .lt 8, 3) := by decide +kernel
theorem dX11_reset_5 : decode cX11_reset 5 = .ok (.iload_n 1, 1) := by decide +kernel
theorem dX11_reset_6 : decode cX11_reset 6 = .ok (.iconst 2, 1) := by decide +kernel
theorem dX11_reset_7 : decode cX11_reset 7 = .ok (.if_icmp .le 7, 3) := by decide +kernel
theorem dX11_reset_10 : decode cX11_reset 10 = .ok (.iconst 1, 1) := by decide +kernel
theorem dX11_reset_11 : decode cX11_reset 11 = .ok (.goto 4, 3) := by decide +kernel
theorem dX11_reset_14 : decode cX11_reset 14 = .ok (.iconst 0, 1) := by decide +kernel
theorem dX11_reset_15 : decode cX11_reset 15 = .ok (.invokevirtual 91, 3) := by decide +kernel
theorem dX11_reset_18 : decode cX11_reset 18 = .ok (.ifCond .eq 4, 3) := by decide +kernel
theorem dX11_reset_21 : decode cX11_reset 21 = .ok (.return_, 1) := by decide +kernel
theorem dX11_reset_22 : decode cX11_reset 22 = .ok (.iload_n 1, 1) := by decide +kernel
theorem dX11_reset_23 : decode cX11_reset 23 = .ok (.iconst 1, 1) := by decide +kernel
theorem dX11_reset_24 : decode cX11_reset 24 = .ok (.if_icmp .eq 49, 3) := by decide +kernel
theorem dX11_reset_27 : decode cX11_reset 27 = .ok (.aload_n 0, 1) := by decide +kernel
theorem dX11_reset_28 : decode cX11_reset 28 = .ok (.lconst 0, 1) := by decide +kernel
theorem dX11_reset_29 : decode cX11_reset 29 = .ok (.putfield 101, 3) := by decide +kernel
theorem dX11_reset_32 : decode cX11_reset 32 = .ok (.aload_n 0, 1) := by decide +kernel
theorem dX11_reset_33 : decode cX11_reset 33 = .ok (.lconst 0, 1) := by decide +kernel
theorem dX11_reset_34 : decode cX11_reset 34 = .ok (.putfield 107, 3) := by decide +kernel
theorem dX11_reset_37 : decode cX11_reset 37 = .ok (.aload_n 0, 1) := by decide +kernel
theorem dX11_reset_38 : decode cX11_reset 38 = .ok (.lconst 0, 1) := by decide +kernel
theorem dX11_reset_39 : decode cX11_reset 39 = .ok (.putfield 119, 3) := by decide +kernel
theorem dX11_reset_42 : decode cX11_reset 42 = .ok (.aload_n 0, 1) := by decide +kernel
theorem dX11_reset_43 : decode cX11_reset 43 = .ok (.iconst 0, 1) := by decide +kernel
theorem dX11_reset_44 : decode cX11_reset 44 = .ok (.putfield 238, 3) := by decide +kernel
theorem dX11_reset_47 : decode cX11_reset 47 = .ok (.aload_n 0, 1) := by decide +kernel
theorem dX11_reset_48 : decode cX11_reset 48 = .ok (.iconst 0, 1) := by decide +kernel
theorem dX11_reset_49 : decode cX11_reset 49 = .ok (.invokevirtual 257, 3) := by decide +kernel
theorem dX11_reset_52 : decode cX11_reset 52 = .ok (.iconst 0, 1) := by decide +kernel
theorem dX11_reset_53 : decode cX11_reset 53 = .ok (.istore_n 2, 1) := by decide +kernel
theorem dX11_reset_54 : decode cX11_reset 54 = .ok (.iload_n 2, 1) := by decide +kernel
theorem dX11_reset_55 : decode cX11_reset 55 = .ok (.bipush 9, 2) := by decide +kernel
theorem dX11_reset_57 : decode cX11_reset 57 = .ok (.if_icmp .ge 16, 3) := by decide +kernel
theorem dX11_reset_60 : decode cX11_reset 60 = .ok (.aload_n 0, 1) := by decide +kernel
theorem dX11_reset_61 : decode cX11_reset 61 = .ok (.getfield 26, 3) := by decide +kernel
theorem dX11_reset_64 : decode cX11_reset 64 = .ok (.iload_n 2, 1) := by decide +kernel
theorem dX11_reset_65 : decode cX11_reset 65 = .ok (.lconst 0, 1) := by decide +kernel
theorem dX11_reset_66 : decode cX11_reset 66 = .ok (.lastore, 1) := by decide +kernel
theorem dX11_reset_67 : decode cX11_reset 67 = .ok (.iinc 2 1, 3) := by decide +kernel
theorem dX11_reset_70 : decode cX11_reset 70 = .ok (.goto (-16), 3) := by decide +kernel
theorem dX11_reset_73 : decode cX11_reset 73 = .ok (.iload_n 1, 1) := by decide +kernel
theorem dX11_reset_74 : decode cX11_reset 74 = .ok (.ifCond .eq 45, 3) := by decide +kernel
theorem dX11_reset_77 : decode cX11_reset 77 = .ok (.aload_n 0, 1) := by decide +kernel
theorem dX11_reset_78 : decode cX11_reset 78 = .ok (.bipush 40, 2) := by decide +kernel
theorem dX11_reset_80 : decode cX11_reset 80 = .ok (.putfield 35, 3) := by decide +kernel
theorem dX11_reset_83 : decode cX11_reset 83 = .ok (.aload_n 0, 1) := by decide +kernel
theorem dX11_reset_84 : decode cX11_reset 84 = .ok (.lconst 0, 1) := by decide +kernel
theorem dX11_reset_85 : decode cX11_reset 85 = .ok (.putfield 249, 3) := by decide +kernel
theorem dX11_reset_88 : decode cX11_reset 88 = .ok (.aload_n 0, 1) := by decide +kernel
theorem dX11_reset_89 : decode cX11_reset 89 = .ok (.iconst 0, 1) := by decide +kernel
theorem dX11_reset_90 : decode cX11_reset 90 = .ok (.putfield 254, 3) := by decide +kernel
theorem dX11_reset_93 : decode cX11_reset 93 = .ok (.aload_n 0, 1) := by decide +kernel
theorem dX11_reset_94 : decode cX11_reset 94 = .ok (.iconst 1, 1) := by decide +kernel
theorem dX11_reset_95 : decode cX11_reset 95 = .ok (.invokevirtual 257, 3) := by decide +kernel
theorem dX11_reset_98 : decode cX11_reset 98 = .ok (.iconst 0, 1) := by decide +kernel
theorem dX11_reset_99 : decode cX11_reset 99 = .ok (.istore_n 2, 1) := by decide +kernel
theorem dX11_reset_100 : decode cX11_reset 100 = .ok (.iload_n 2, 1) := by decide +kernel
theorem dX11_reset_101 : decode cX11_reset 101 = .ok (.bipush 9, 2) := by decide +kernel
theorem dX11_reset_103 : decode cX11_reset 103 = .ok (.if_icmp .ge 16, 3) := by decide +kernel
theorem dX11_reset_106 : decode cX11_reset 106 = .ok (.aload_n 0, 1) := by decide +kernel
theorem dX11_reset_107 : decode cX11_reset 107 = .ok (.getfield 29, 3) := by decide +kernel
theorem dX11_reset_110 : decode cX11_reset 110 = .ok (.iload_n 2, 1) := by decide +kernel
theorem dX11_reset_111 : decode cX11_reset 111 = .ok (.lconst 0, 1) := by decide +kernel
theorem dX11_reset_112 : decode cX11_reset 112 = .ok (.lastore, 1) := by decide +kernel
theorem dX11_reset_113 : decode cX11_reset 113 = .ok (.iinc 2 1, 3) := by decide +kernel
theorem dX11_reset_116 : decode cX11_reset 116 = .ok (.goto (-16), 3) := by decide +kernel
theorem dX11_reset_119 : decode cX11_reset 119 = .ok (.iload_n 1, 1) := by decide +kernel
theorem dX11_reset_120 : decode cX11_reset 120 = .ok (.iconst 2, 1) := by decide +kernel
theorem dX11_reset_121 : decode cX11_reset 121 = .ok (.if_icmp .ne 56, 3) := by decide +kernel
theorem dX11_reset_124 : decode cX11_reset 124 = .ok (.aload_n 0, 1) := by decide +kernel
theorem dX11_reset_125 : decode cX11_reset 125 = .ok (.iconst 0, 1) := by decide +kernel
theorem dX11_reset_126 : decode cX11_reset 126 = .ok (.putfield 88, 3) := by decide +kernel
theorem dX11_reset_129 : decode cX11_reset 129 = .ok (.aload_n 0, 1) := by decide +kernel
theorem dX11_reset_130 : decode cX11_reset 130 = .ok (.iconst 0, 1) := by decide +kernel
theorem dX11_reset_131 : decode cX11_reset 131 = .ok (.putfield 241, 3) := by decide +kernel
theorem dX11_reset_134 : decode cX11_reset 134 = .ok (.iconst 0, 1) := by decide +kernel
theorem dX11_reset_135 : decode cX11_reset 135 = .ok (.istore_n 2, 1) := by decide +kernel
theorem dX11_reset_136 : decode cX11_reset 136 = .ok (.iload_n 2, 1) := by decide +kernel
theorem dX11_reset_137 : decode cX11_reset 137 = .ok (.bipush 76, 2) := by decide +kernel
theorem dX11_reset_139 : decode cX11_reset 139 = .ok (.if_icmp .ge 16, 3) := by decide +kernel
theorem dX11_reset_142 : decode cX11_reset 142 = .ok (.aload_n 0, 1) := by decide +kernel
theorem dX11_reset_143 : decode cX11_reset 143 = .ok (.getfield 17, 3) := by decide +kernel
theorem dX11_reset_146 : decode cX11_reset 146 = .ok (.iload_n 2, 1) := by decide +kernel
theorem dX11_reset_147 : decode cX11_reset 147 = .ok (.iconst 0, 1) := by decide +kernel
theorem dX11_reset_148 : decode cX11_reset 148 = .ok (.iastore, 1) := by decide +kernel
theorem dX11_reset_149 : decode cX11_reset 149 = .ok (.iinc 2 1, 3) := by decide +kernel
theorem dX11_reset_152 : decode cX11_reset 152 = .ok (.goto (-16), 3) := by decide +kernel
theorem dX11_reset_155 : decode cX11_reset 155 = .ok (.iconst 0, 1) := by decide +kernel
theorem dX11_reset_156 : decode cX11_reset 156 = .ok (.istore_n 2, 1) := by decide +kernel
theorem dX11_reset_157 : decode cX11_reset 157 = .ok (.iload_n 2, 1) := by decide +kernel
theorem dX11_reset_158 : decode cX11_reset 158 = .ok (.sipush 160, 3) := by decide +kernel
theorem dX11_reset_161 : decode cX11_reset 161 = .ok (.if_icmp .ge 16, 3) := by decide +kernel
theorem dX11_reset_164 : decode cX11_reset 164 = .ok (.aload_n 0, 1) := by decide +kernel
theorem dX11_reset_165 : decode cX11_reset 165 = .ok (.getfield 20, 3) := by decide +kernel
theorem dX11_reset_168 : decode cX11_reset 168 = .ok (.iload_n 2, 1) := by decide +kernel
theorem dX11_reset_169 : decode cX11_reset 169 = .ok (.iconst 0, 1) := by decide +kernel
theorem dX11_reset_170 : decode cX11_reset 170 = .ok (.iastore, 1) := by decide +kernel
theorem dX11_reset_171 : decode cX11_reset 171 = .ok (.iinc 2 1, 3) := by decide +kernel
theorem dX11_reset_174 : decode cX11_reset 174 = .ok (.goto (-17), 3) := by decide +kernel
theorem dX11_reset_177 : decode cX11_reset 177 = .ok (.return_, 1) := by decide +kernel
theorem dX11_clears_0 : decode cX11_clears 0 = .ok (.bipush 8, 2) := by decide +kernel
theorem dX11_clears_2 : decode cX11_clears 2 = .ok (.iload_n 1, 1) := by decide +kernel
theorem dX11_clears_3 : decode cX11_clears 3 = .ok (.imul, 1) := by decide +kernel
theorem dX11_clears_4 : decode cX11_clears 4 = .ok (.istore_n 2, 1) := by decide +kernel
theorem dX11_clears_5 : decode cX11_clears 5 = .ok (.iload_n 2, 1) := by decide +kernel
theorem dX11_clears_6 : decode cX11_clears 6 = .ok (.bipush 8, 2) := by decide +kernel
theorem dX11_clears_8 : decode cX11_clears 8 = .ok (.iload_n 1, 1) := by decide +kernel
theorem dX11_clears_9 : decode cX11_clears 9 = .ok (.imul, 1) := by decide +kernel
theorem dX11_clears_10 : decode cX11_clears 10 = .ok (.bipush 8, 2) := by decide +kernel
theorem dX11_clears_12 : decode cX11_clears 12 = .ok (.iadd, 1) := by decide +kernel
theorem dX11_clears_13 : decode cX11_clears 13 = .ok (.if_icmp .ge 16, 3) := by decide +kernel
theorem dX11_clears_16 : decode cX11_clears 16 = .ok (.aload_n 0, 1) := by decide +kernel
theorem dX11_clears_17 : decode cX11_clears 17 = .ok (.getfield 23, 3) := by decide +kernel
theorem dX11_clears_20 : decode cX11_clears 20 = .ok (.iload_n 2, 1) := by decide +kernel
theorem dX11_clears_21 : decode cX11_clears 21 = .ok (.lconst 0, 1) := by decide +kernel
theorem dX11_clears_22 : decode cX11_clears 22 = .ok (.lastore, 1) := by decide +kernel
theorem dX11_clears_23 : decode cX11_clears 23 = .ok (.iinc 2 1, 3) := by decide +kernel
theorem dX11_clears_26 : decode cX11_clears 26 = .ok (.goto (-21), 3) := by decide +kernel
theorem dX11_clears_29 : decode cX11_clears 29 = .ok (.sipush 280, 3) := by decide +kernel
theorem dX11_clears_32 : decode cX11_clears 32 = .ok (.iload_n 1, 1) := by decide +kernel
theorem dX11_clears_33 : decode cX11_clears 33 = .ok (.imul, 1) := by decide +kernel
theorem dX11_clears_34 : decode cX11_clears 34 = .ok (.istore_n 2, 1) := by decide +kernel
theorem dX11_clears_35 : decode cX11_clears 35 = .ok (.iload_n 2, 1) := by decide +kernel
theorem dX11_clears_36 : decode cX11_clears 36 = .ok (.sipush 280, 3) := by decide +kernel
theorem dX11_clears_39 : decode cX11_clears 39 = .ok (.iload_n 1, 1) := by decide +kernel
theorem dX11_clears_40 : decode cX11_clears 40 = .ok (.imul, 1) := by decide +kernel
theorem dX11_clears_41 : decode cX11_clears 41 = .ok (.sipush 280, 3) := by decide +kernel
theorem dX11_clears_44 : decode cX11_clears 44 = .ok (.iadd, 1) := by decide +kernel
theorem dX11_clears_45 : decode cX11_clears 45 = .ok (.if_icmp .ge 16, 3) := by decide +kernel
theorem dX11_clears_48 : decode cX11_clears 48 = .ok (.aload_n 0, 1) := by decide +kernel
theorem dX11_clears_49 : decode cX11_clears 49 = .ok (.getfield 32, 3) := by decide +kernel
theorem dX11_clears_52 : decode cX11_clears 52 = .ok (.iload_n 2, 1) := by decide +kernel
theorem dX11_clears_53 : decode cX11_clears 53 = .ok (.lconst 0, 1) := by decide +kernel
theorem dX11_clears_54 : decode cX11_clears 54 = .ok (.lastore, 1) := by decide +kernel
theorem dX11_clears_55 : decode cX11_clears 55 = .ok (.iinc 2 1, 3) := by decide +kernel
theorem dX11_clears_58 : decode cX11_clears 58 = .ok (.goto (-23), 3) := by decide +kernel
theorem dX11_clears_61 : decode cX11_clears 61 = .ok (.return_, 1) := by decide +kernel
theorem dX11_state_0 : decode cX11_state 0 = .ok (.iload_n 1, 1) := by decide +kernel
theorem dX11_state_1 : decode cX11_state 1 = .ok (.ifCond .lt 9, 3) := by decide +kernel
theorem dX11_state_4 : decode cX11_state 4 = .ok (.iload_n 1, 1) := by decide +kernel
theorem dX11_state_5 : decode cX11_state 5 = .ok (.bipush 7, 2) := by decide +kernel
theorem dX11_state_7 : decode cX11_state 7 = .ok (.if_icmp .le 7, 3) := by decide +kernel
theorem dX11_state_10 : decode cX11_state 10 = .ok (.iconst 0, 1) := by decide +kernel
theorem dX11_state_11 : decode cX11_state 11 = .ok (.goto 40, 3) := by decide +kernel
theorem dX11_state_14 : decode cX11_state 14 = .ok (.iload_n 1, 1) := by decide +kernel
theorem dX11_state_15 : decode cX11_state 15 = .ok (.iconst 2, 1) := by decide +kernel
theorem dX11_state_16 : decode cX11_state 16 = .ok (.if_icmp .eq 8, 3) := by decide +kernel
theorem dX11_state_19 : decode cX11_state 19 = .ok (.iload_n 1, 1) := by decide +kernel
theorem dX11_state_20 : decode cX11_state 20 = .ok (.iconst 3, 1) := by decide +kernel
theorem dX11_state_21 : decode cX11_state 21 = .ok (.if_icmp .ne 8, 3) := by decide +kernel
theorem dX11_state_24 : decode cX11_state 24 = .ok (.bipush 120, 2) := by decide +kernel
theorem dX11_state_26 : decode cX11_state 26 = .ok (.goto 25, 3) := by decide +kernel
theorem dX11_state_29 : decode cX11_state 29 = .ok (.iload_n 1, 1) := by decide +kernel
theorem dX11_state_30 : decode cX11_state 30 = .ok (.bipush 6, 2) := by decide +kernel
theorem dX11_state_32 : decode cX11_state 32 = .ok (.if_icmp .ne 7, 3) := by decide +kernel
theorem dX11_state_35 : decode cX11_state 35 = .ok (.iconst 3, 1) := by decide +kernel
theorem dX11_state_36 : decode cX11_state 36 = .ok (.goto 15, 3) := by decide +kernel
theorem dX11_state_39 : decode cX11_state 39 = .ok (.iload_n 1, 1) := by decide +kernel
theorem dX11_state_40 : decode cX11_state 40 = .ok (.bipush 7, 2) := by decide +kernel
theorem dX11_state_42 : decode cX11_state 42 = .ok (.if_icmp .ne 7, 3) := by decide +kernel
theorem dX11_state_45 : decode cX11_state 45 = .ok (.iconst 2, 1) := by decide +kernel
theorem dX11_state_46 : decode cX11_state 46 = .ok (.goto 5, 3) := by decide +kernel
theorem dX11_state_49 : decode cX11_state 49 = .ok (.bipush 8, 2) := by decide +kernel
theorem dX11_state_51 : decode cX11_state 51 = .ok (.istore_n 3, 1) := by decide +kernel
theorem dX11_state_52 : decode cX11_state 52 = .ok (.aload_n 0, 1) := by decide +kernel
theorem dX11_state_53 : decode cX11_state 53 = .ok (.iload_n 2, 1) := by decide +kernel
theorem dX11_state_54 : decode cX11_state 54 = .ok (.ifCond .lt 8, 3) := by decide +kernel
theorem dX11_state_57 : decode cX11_state 57 = .ok (.iload_n 2, 1) := by decide +kernel
theorem dX11_state_58 : decode cX11_state 58 = .ok (.iload_n 3, 1) := by decide +kernel
theorem dX11_state_59 : decode cX11_state 59 = .ok (.if_icmp .lt 7, 3) := by decide +kernel
theorem dX11_state_62 : decode cX11_state 62 = .ok (.iconst 1, 1) := by decide +kernel
theorem dX11_state_63 : decode cX11_state 63 = .ok (.goto 4, 3) := by decide +kernel
theorem dX11_state_66 : decode cX11_state 66 = .ok (.iconst 0, 1) := by decide +kernel
theorem dX11_state_67 : decode cX11_state 67 = .ok (.invokevirtual 91, 3) := by decide +kernel
theorem dX11_state_70 : decode cX11_state 70 = .ok (.ifCond .eq 5, 3) := by decide +kernel
theorem dX11_state_73 : decode cX11_state 73 = .ok (.iconst 0, 1) := by decide +kernel
theorem dX11_state_74 : decode cX11_state 74 = .ok (.ireturn, 1) := by decide +kernel
theorem dX11_state_75 : decode cX11_state 75 = .ok (.iload_n 1, 1) := by decide +kernel
theorem dX11_state_76 : decode cX11_state 76 = .ok (.tableswitch 120 0 6 #[44, 44, 57, 57, 73, 83, 91], 44) := by decide +kernel
theorem dX11_state_120 : decode cX11_state 120 = .ok (.aload_n 0, 1) := by decide +kernel
theorem dX11_state_121 : decode cX11_state 121 = .ok (.getfield 23, 3) := by decide +kernel
theorem dX11_state_124 : decode cX11_state 124 = .ok (.bipush 8, 2) := by decide +kernel
theorem dX11_state_126 : decode cX11_state 126 = .ok (.iload_n 1, 1) := by decide +kernel
theorem dX11_state_127 : decode cX11_state 127 = .ok (.imul, 1) := by decide +kernel
theorem dX11_state_128 : decode cX11_state 128 = .ok (.iload_n 2, 1) := by decide +kernel
theorem dX11_state_129 : decode cX11_state 129 = .ok (.iadd, 1) := by decide +kernel
theorem dX11_state_130 : decode cX11_state 130 = .ok (.laload, 1) := by decide +kernel
theorem dX11_state_131 : decode cX11_state 131 = .ok (.l2i, 1) := by decide +kernel
theorem dX11_state_132 : decode cX11_state 132 = .ok (.ireturn, 1) := by decide +kernel
theorem dX11_state_133 : decode cX11_state 133 = .ok (.aload_n 0, 1) := by decide +kernel
theorem dX11_state_134 : decode cX11_state 134 = .ok (.getfield 32, 3) := by decide +kernel
theorem dX11_state_137 : decode cX11_state 137 = .ok (.sipush 280, 3) := by decide +kernel
theorem dX11_state_140 : decode cX11_state 140 = .ok (.iload_n 1, 1) := by decide +kernel
theorem dX11_state_141 : decode cX11_state 141 = .ok (.iconst 2, 1) := by decide +kernel
theorem dX11_state_142 : decode cX11_state 142 = .ok (.isub, 1) := by decide +kernel
theorem dX11_state_143 : decode cX11_state 143 = .ok (.imul, 1) := by decide +kernel
theorem dX11_state_144 : decode cX11_state 144 = .ok (.iload_n 2, 1) := by decide +kernel
theorem dX11_state_145 : decode cX11_state 145 = .ok (.iadd, 1) := by decide +kernel
theorem dX11_state_146 : decode cX11_state 146 = .ok (.laload, 1) := by decide +kernel
theorem dX11_state_147 : decode cX11_state 147 = .ok (.l2i, 1) := by decide +kernel
theorem dX11_state_148 : decode cX11_state 148 = .ok (.ireturn, 1) := by decide +kernel
theorem dX11_state_149 : decode cX11_state 149 = .ok (.aload_n 0, 1) := by decide +kernel
theorem dX11_state_150 : decode cX11_state 150 = .ok (.getfield 26, 3) := by decide +kernel
theorem dX11_state_153 : decode cX11_state 153 = .ok (.iload_n 2, 1) := by decide +kernel
theorem dX11_state_154 : decode cX11_state 154 = .ok (.iconst 1, 1) := by decide +kernel
theorem dX11_state_155 : decode cX11_state 155 = .ok (.iadd, 1) := by decide +kernel
theorem dX11_state_156 : decode cX11_state 156 = .ok (.laload, 1) := by decide +kernel
theorem dX11_state_157 : decode cX11_state 157 = .ok (.l2i, 1) := by decide +kernel
theorem dX11_state_158 : decode cX11_state 158 = .ok (.ireturn, 1) := by decide +kernel
theorem dX11_state_159 : decode cX11_state 159 = .ok (.aload_n 0, 1) := by decide +kernel
theorem dX11_state_160 : decode cX11_state 160 = .ok (.getfield 29, 3) := by decide +kernel
theorem dX11_state_163 : decode cX11_state 163 = .ok (.iload_n 2, 1) := by decide +kernel
theorem dX11_state_164 : decode cX11_state 164 = .ok (.laload, 1) := by decide +kernel
theorem dX11_state_165 : decode cX11_state 165 = .ok (.l2i, 1) := by decide +kernel
theorem dX11_state_166 : decode cX11_state 166 = .ok (.ireturn, 1) := by decide +kernel
theorem dX11_state_167 : decode cX11_state 167 = .ok (.iload_n 2, 1) := by decide +kernel
theorem dX11_state_168 : decode cX11_state 168 = .ok (.ifCond .ne 10, 3) := by decide +kernel
theorem dX11_state_171 : decode cX11_state 171 = .ok (.aload_n 0, 1) := by decide +kernel
theorem dX11_state_172 : decode cX11_state 172 = .ok (.getfield 101, 3) := by decide +kernel
theorem dX11_state_175 : decode cX11_state 175 = .ok (.goto 19, 3) := by decide +kernel
theorem dX11_state_178 : decode cX11_state 178 = .ok (.iload_n 2, 1) := by decide +kernel
theorem dX11_state_179 : decode cX11_state 179 = .ok (.iconst 1, 1) := by decide +kernel
theorem dX11_state_180 : decode cX11_state 180 = .ok (.if_icmp .ne 10, 3) := by decide +kernel
theorem dX11_state_183 : decode cX11_state 183 = .ok (.aload_n 0, 1) := by decide +kernel
theorem dX11_state_184 : decode cX11_state 184 = .ok (.getfield 107, 3) := by decide +kernel
theorem dX11_state_187 : decode cX11_state 187 = .ok (.goto 7, 3) := by decide +kernel
theorem dX11_state_190 : decode cX11_state 190 = .ok (.aload_n 0, 1) := by decide +kernel
theorem dX11_state_191 : decode cX11_state 191 = .ok (.getfield 119, 3) := by decide +kernel
theorem dX11_state_194 : decode cX11_state 194 = .ok (.l2i, 1) := by decide +kernel
theorem dX11_state_195 : decode cX11_state 195 = .ok (.ireturn, 1) := by decide +kernel
theorem dX11_state_196 : decode cX11_state 196 = .ok (.iload_n 2, 1) := by decide +kernel
theorem dX11_state_197 : decode cX11_state 197 = .ok (.ifCond .ne 10, 3) := by decide +kernel
theorem dX11_state_200 : decode cX11_state 200 = .ok (.aload_n 0, 1) := by decide +kernel
theorem dX11_state_201 : decode cX11_state 201 = .ok (.getfield 35, 3) := by decide +kernel
theorem dX11_state_204 : decode cX11_state 204 = .ok (.goto 8, 3) := by decide +kernel
theorem dX11_state_207 : decode cX11_state 207 = .ok (.aload_n 0, 1) := by decide +kernel
theorem dX11_state_208 : decode cX11_state 208 = .ok (.getfield 249, 3) := by decide +kernel
theorem dX11_state_211 : decode cX11_state 211 = .ok (.l2i, 1) := by decide +kernel
theorem dX11_state_212 : decode cX11_state 212 = .ok (.ireturn, 1) := by decide +kernel
theorem dX11_about_0 : decode cX11_about 0 = .ok (.aload_n 0, 1) := by decide +kernel
theorem dX11_about_1 : decode cX11_about 1 = .ok (.iload_n 1, 1) := by decide +kernel
theorem dX11_about_2 : decode cX11_about 2 = .ok (.ifCond .lt 8, 3) := by decide +kernel
theorem dX11_about_5 : decode cX11_about 5 = .ok (.iload_n 1, 1) := by decide +kernel
theorem dX11_about_6 : decode cX11_about 6 = .ok (.iconst 3, 1) := by decide +kernel
theorem dX11_about_7 : decode cX11_about 7 = .ok (.if_icmp .le 7, 3) := by decide +kernel
theorem dX11_about_10 : decode cX11_about 10 = .ok (.iconst 1, 1) := by decide +kernel
theorem dX11_about_11 : decode cX11_about 11 = .ok (.goto 4, 3) := by decide +kernel
theorem dX11_about_14 : decode cX11_about 14 = .ok (.iconst 0, 1) := by decide +kernel
theorem dX11_about_15 : decode cX11_about 15 = .ok (.invokevirtual 91, 3) := by decide +kernel
theorem dX11_about_18 : decode cX11_about 18 = .ok (.ifCond .eq 5, 3) := by decide +kernel
theorem dX11_about_21 : decode cX11_about 21 = .ok (.iconst 0, 1) := by decide +kernel
theorem dX11_about_22 : decode cX11_about 22 = .ok (.ireturn, 1) := by decide +kernel
theorem dX11_about_23 : decode cX11_about 23 = .ok (.iload_n 1, 1) := by decide +kernel
theorem dX11_about_24 : decode cX11_about 24 = .ok (.ifCond .ne 10, 3) := by decide +kernel
theorem dX11_about_27 : decode cX11_about 27 = .ok (.aload_n 0, 1) := by decide +kernel
theorem dX11_about_28 : decode cX11_about 28 = .ok (.getfield 88, 3) := by decide +kernel
theorem dX11_about_31 : decode cX11_about 31 = .ok (.goto 31, 3) := by decide +kernel
theorem dX11_about_34 : decode cX11_about 34 = .ok (.iload_n 1, 1) := by decide +kernel
theorem dX11_about_35 : decode cX11_about 35 = .ok (.iconst 1, 1) := by decide +kernel
theorem dX11_about_36 : decode cX11_about 36 = .ok (.if_icmp .ne 10, 3) := by decide +kernel
theorem dX11_about_39 : decode cX11_about 39 = .ok (.aload_n 0, 1) := by decide +kernel
theorem dX11_about_40 : decode cX11_about 40 = .ok (.getfield 241, 3) := by decide +kernel
theorem dX11_about_43 : decode cX11_about 43 = .ok (.goto 19, 3) := by decide +kernel
theorem dX11_about_46 : decode cX11_about 46 = .ok (.iload_n 1, 1) := by decide +kernel
theorem dX11_about_47 : decode cX11_about 47 = .ok (.iconst 2, 1) := by decide +kernel
theorem dX11_about_48 : decode cX11_about 48 = .ok (.if_icmp .ne 10, 3) := by decide +kernel
theorem dX11_about_51 : decode cX11_about 51 = .ok (.aload_n 0, 1) := by decide +kernel
theorem dX11_about_52 : decode cX11_about 52 = .ok (.getfield 238, 3) := by decide +kernel
theorem dX11_about_55 : decode cX11_about 55 = .ok (.goto 7, 3) := by decide +kernel
theorem dX11_about_58 : decode cX11_about 58 = .ok (.aload_n 0, 1) := by decide +kernel
theorem dX11_about_59 : decode cX11_about 59 = .ok (.getfield 254, 3) := by decide +kernel
theorem dX11_about_62 : decode cX11_about 62 = .ok (.ireturn, 1) := by decide +kernel
end
section
theorem dJ7_fill_53178_0 : decode cJ7_fill_53178 0 = .ok (.iconst 0, 1) := by decide +kernel
theorem dJ7_fill_53178_1 : decode cJ7_fill_53178 1 = .ok (.istore_n 2, 1) := by decide +kernel
theorem dJ7_fill_53178_2 : decode cJ7_fill_53178 2 = .ok (.aload_n 0, 1) := by decide +kernel
theorem dJ7_fill_53178_3 : decode cJ7_fill_53178 3 = .ok (.arraylength, 1) := by decide +kernel
theorem dJ7_fill_53178_4 : decode cJ7_fill_53178 4 = .ok (.istore_n 3, 1) := by decide +kernel
theorem dJ7_fill_53178_5 : decode cJ7_fill_53178 5 = .ok (.iload_n 2, 1) := by decide +kernel
theorem dJ7_fill_53178_6 : decode cJ7_fill_53178 6 = .ok (.iload_n 3, 1) := by decide +kernel
theorem dJ7_fill_53178_7 : decode cJ7_fill_53178 7 = .ok (.if_icmp .ge 13, 3) := by decide +kernel
theorem dJ7_fill_53178_10 : decode cJ7_fill_53178 10 = .ok (.aload_n 0, 1) := by decide +kernel
theorem dJ7_fill_53178_11 : decode cJ7_fill_53178 11 = .ok (.iload_n 2, 1) := by decide +kernel
theorem dJ7_fill_53178_12 : decode cJ7_fill_53178 12 = .ok (.iload_n 1, 1) := by decide +kernel
theorem dJ7_fill_53178_13 : decode cJ7_fill_53178 13 = .ok (.iastore, 1) := by decide +kernel
theorem dJ7_fill_53178_14 : decode cJ7_fill_53178 14 = .ok (.iinc 2 1, 3) := by decide +kernel
theorem dJ7_fill_53178_17 : decode cJ7_fill_53178 17 = .ok (.goto (-12), 3) := by decide +kernel
theorem dJ7_fill_53178_20 : decode cJ7_fill_53178 20 = .ok (.return_, 1) := by decide +kernel
theorem dL_put_0 : decode cL_put 0 = .ok (.aload_n 2, 1) := by decide +kernel
theorem dL_put_1 : decode cL_put 1 = .ok (.iconst 0, 1) := by decide +kernel
theorem dL_put_2 : decode cL_put 2 = .ok (.aload_n 0, 1) := by decide +kernel
theorem dL_put_3 : decode cL_put 3 = .ok (.iload_n 1, 1) := by decide +kernel
theorem dL_put_4 : decode cL_put 4 = .ok (.invokevirtual 7, 3) := by decide +kernel
theorem dL_put_7 : decode cL_put 7 = .ok (.i2l, 1) := by decide +kernel
theorem dL_put_8 : decode cL_put 8 = .ok (.lastore, 1) := by decide +kernel
theorem dL_put_9 : decode cL_put 9 = .ok (.goto 9, 3) := by decide +kernel
theorem dL_put_12 : decode cL_put 12 = .ok (.astore_n 3, 1) := by decide +kernel
theorem dL_put_13 : decode cL_put 13 = .ok (.iconst 1, 1) := by decide +kernel
theorem dL_put_14 : decode cL_put 14 = .ok (.ireturn, 1) := by decide +kernel
theorem dL_put_15 : decode cL_put 15 = .ok (.astore_n 3, 1) := by decide +kernel
theorem dL_put_16 : decode cL_put 16 = .ok (.iconst 2, 1) := by decide +kernel
theorem dL_put_17 : decode cL_put 17 = .ok (.ireturn, 1) := by decide +kernel
theorem dL_put_18 : decode cL_put 18 = .ok (.iconst 0, 1) := by decide +kernel
theorem dL_put_19 : decode cL_put 19 = .ok (.ireturn, 1) := by decide +kernel
theorem dL_fill_0 : decode cL_fill 0 = .ok (.aload 4, 2) := by decide +kernel
theorem dL_fill_2 : decode cL_fill 2 = .ok (.iconst 0, 1) := by decide +kernel
theorem dL_fill_3 : decode cL_fill 3 = .ok (.aload_n 0, 1) := by decide +kernel
theorem dL_fill_4 : decode cL_fill 4 = .ok (.iload_n 1, 1) := by decide +kernel
theorem dL_fill_5 : decode cL_fill 5 = .ok (.iload_n 2, 1) := by decide +kernel
theorem dL_fill_6 : decode cL_fill 6 = .ok (.iload_n 3, 1) := by decide +kernel
theorem dL_fill_7 : decode cL_fill 7 = .ok (.invokevirtual 17, 3) := by decide +kernel
theorem dL_fill_10 : decode cL_fill 10 = .ok (.i2l, 1) := by decide +kernel
theorem dL_fill_11 : decode cL_fill 11 = .ok (.lastore, 1) := by decide +kernel
theorem dL_fill_12 : decode cL_fill 12 = .ok (.goto 11, 3) := by decide +kernel
theorem dL_fill_15 : decode cL_fill 15 = .ok (.astore 5, 2) := by decide +kernel
theorem dL_fill_17 : decode cL_fill 17 = .ok (.iconst 1, 1) := by decide +kernel
theorem dL_fill_18 : decode cL_fill 18 = .ok (.ireturn, 1) := by decide +kernel
theorem dL_fill_19 : decode cL_fill 19 = .ok (.astore 5, 2) := by decide +kernel
theorem dL_fill_21 : decode cL_fill 21 = .ok (.iconst 2, 1) := by decide +kernel
theorem dL_fill_22 : decode cL_fill 22 = .ok (.ireturn, 1) := by decide +kernel
theorem dL_fill_23 : decode cL_fill 23 = .ok (.iconst 0, 1) := by decide +kernel
theorem dL_fill_24 : decode cL_fill 24 = .ok (.ireturn, 1) := by decide +kernel
theorem dL_encode_0 : decode cL_encode 0 = .ok (.aload_n 1, 1) := by decide +kernel
theorem dL_encode_1 : decode cL_encode 1 = .ok (.iconst 0, 1) := by decide +kernel
theorem dL_encode_2 : decode cL_encode 2 = .ok (.aload_n 0, 1) := by decide +kernel
theorem dL_encode_3 : decode cL_encode 3 = .ok (.invokevirtual 21, 3) := by decide +kernel
theorem dL_encode_6 : decode cL_encode 6 = .ok (.i2l, 1) := by decide +kernel
theorem dL_encode_7 : decode cL_encode 7 = .ok (.lastore, 1) := by decide +kernel
theorem dL_encode_8 : decode cL_encode 8 = .ok (.goto 6, 3) := by decide +kernel
theorem dL_encode_11 : decode cL_encode 11 = .ok (.astore_n 2, 1) := by decide +kernel
theorem dL_encode_12 : decode cL_encode 12 = .ok (.iconst 1, 1) := by decide +kernel
theorem dL_encode_13 : decode cL_encode 13 = .ok (.ireturn, 1) := by decide +kernel
theorem dL_encode_14 : decode cL_encode 14 = .ok (.iconst 0, 1) := by decide +kernel
theorem dL_encode_15 : decode cL_encode 15 = .ok (.ireturn, 1) := by decide +kernel
theorem dL_parameter_0 : decode cL_parameter 0 = .ok (.aload_n 2, 1) := by decide +kernel
theorem dL_parameter_1 : decode cL_parameter 1 = .ok (.iconst 0, 1) := by decide +kernel
theorem dL_parameter_2 : decode cL_parameter 2 = .ok (.aload_n 0, 1) := by decide +kernel
theorem dL_parameter_3 : decode cL_parameter 3 = .ok (.iload_n 1, 1) := by decide +kernel
theorem dL_parameter_4 : decode cL_parameter 4 = .ok (.invokevirtual 25, 3) := by decide +kernel
theorem dL_parameter_7 : decode cL_parameter 7 = .ok (.i2l, 1) := by decide +kernel
theorem dL_parameter_8 : decode cL_parameter 8 = .ok (.lastore, 1) := by decide +kernel
theorem dL_parameter_9 : decode cL_parameter 9 = .ok (.goto 6, 3) := by decide +kernel
theorem dL_parameter_12 : decode cL_parameter 12 = .ok (.astore_n 3, 1) := by decide +kernel
theorem dL_parameter_13 : decode cL_parameter 13 = .ok (.iconst 1, 1) := by decide +kernel
theorem dL_parameter_14 : decode cL_parameter 14 = .ok (.ireturn, 1) := by decide +kernel
theorem dL_parameter_15 : decode cL_parameter 15 = .ok (.iconst 0, 1) := by decide +kernel
theorem dL_parameter_16 : decode cL_parameter 16 = .ok (.ireturn, 1) := by decide +kernel
theorem dL_feed_0 : decode cL_feed 0 = .ok (.aload 4, 2) := by decide +kernel
theorem dL_feed_2 : decode cL_feed 2 = .ok (.iconst 0, 1) := by decide +kernel
theorem dL_feed_3 : decode cL_feed 3 = .ok (.aload_n 0, 1) := by decide +kernel
theorem dL_feed_4 : decode cL_feed 4 = .ok (.lload_n 1, 1) := by decide +kernel
theorem dL_feed_5 : decode cL_feed 5 = .ok (.iload_n 3, 1) := by decide +kernel
theorem dL_feed_6 : decode cL_feed 6 = .ok (.invokevirtual 28, 3) := by decide +kernel
theorem dL_feed_9 : decode cL_feed 9 = .ok (.i2l, 1) := by decide +kernel
theorem dL_feed_10 : decode cL_feed 10 = .ok (.lastore, 1) := by decide +kernel
theorem dL_feed_11 : decode cL_feed 11 = .ok (.goto 11, 3) := by decide +kernel
theorem dL_feed_14 : decode cL_feed 14 = .ok (.astore 5, 2) := by decide +kernel
theorem dL_feed_16 : decode cL_feed 16 = .ok (.iconst 1, 1) := by decide +kernel
theorem dL_feed_17 : decode cL_feed 17 = .ok (.ireturn, 1) := by decide +kernel
theorem dL_feed_18 : decode cL_feed 18 = .ok (.astore 5, 2) := by decide +kernel
theorem dL_feed_20 : decode cL_feed 20 = .ok (.iconst 2, 1) := by decide +kernel
theorem dL_feed_21 : decode cL_feed 21 = .ok (.ireturn, 1) := by decide +kernel
theorem dL_feed_22 : decode cL_feed 22 = .ok (.iconst 0, 1) := by decide +kernel
theorem dL_feed_23 : decode cL_feed 23 = .ok (.ireturn, 1) := by decide +kernel
theorem dL_sample_0 : decode cL_sample 0 = .ok (.aload_n 2, 1) := by decide +kernel
theorem dL_sample_1 : decode cL_sample 1 = .ok (.iconst 0, 1) := by decide +kernel
theorem dL_sample_2 : decode cL_sample 2 = .ok (.aload_n 0, 1) := by decide +kernel
theorem dL_sample_3 : decode cL_sample 3 = .ok (.iload_n 1, 1) := by decide +kernel
theorem dL_sample_4 : decode cL_sample 4 = .ok (.invokevirtual 32, 3) := by decide +kernel
theorem dL_sample_7 : decode cL_sample 7 = .ok (.i2l, 1) := by decide +kernel
theorem dL_sample_8 : decode cL_sample 8 = .ok (.lastore, 1) := by decide +kernel
theorem dL_sample_9 : decode cL_sample 9 = .ok (.goto 6, 3) := by decide +kernel
theorem dL_sample_12 : decode cL_sample 12 = .ok (.astore_n 3, 1) := by decide +kernel
theorem dL_sample_13 : decode cL_sample 13 = .ok (.iconst 1, 1) := by decide +kernel
theorem dL_sample_14 : decode cL_sample 14 = .ok (.ireturn, 1) := by decide +kernel
theorem dL_sample_15 : decode cL_sample 15 = .ok (.iconst 0, 1) := by decide +kernel
theorem dL_sample_16 : decode cL_sample 16 = .ok (.ireturn, 1) := by decide +kernel
theorem dL_reset_0 : decode cL_reset 0 = .ok (.aload_n 0, 1) := by decide +kernel
theorem dL_reset_1 : decode cL_reset 1 = .ok (.iload_n 1, 1) := by decide +kernel
theorem dL_reset_2 : decode cL_reset 2 = .ok (.invokevirtual 35, 3) := by decide +kernel
theorem dL_reset_5 : decode cL_reset 5 = .ok (.goto 6, 3) := by decide +kernel
theorem dL_reset_8 : decode cL_reset 8 = .ok (.astore_n 2, 1) := by decide +kernel
theorem dL_reset_9 : decode cL_reset 9 = .ok (.iconst 1, 1) := by decide +kernel
theorem dL_reset_10 : decode cL_reset 10 = .ok (.ireturn, 1) := by decide +kernel
theorem dL_reset_11 : decode cL_reset 11 = .ok (.iconst 0, 1) := by decide +kernel
theorem dL_reset_12 : decode cL_reset 12 = .ok (.ireturn, 1) := by decide +kernel
theorem dL_state_0 : decode cL_state 0 = .ok (.aload_n 3, 1) := by decide +kernel
theorem dL_state_1 : decode cL_state 1 = .ok (.iconst 0, 1) := by decide +kernel
theorem dL_state_2 : decode cL_state 2 = .ok (.aload_n 0, 1) := by decide +kernel
theorem dL_state_3 : decode cL_state 3 = .ok (.iload_n 1, 1) := by decide +kernel
theorem dL_state_4 : decode cL_state 4 = .ok (.iload_n 2, 1) := by decide +kernel
theorem dL_state_5 : decode cL_state 5 = .ok (.invokevirtual 39, 3) := by decide +kernel
theorem dL_state_8 : decode cL_state 8 = .ok (.i2l, 1) := by decide +kernel
theorem dL_state_9 : decode cL_state 9 = .ok (.lastore, 1) := by decide +kernel
theorem dL_state_10 : decode cL_state 10 = .ok (.goto 7, 3) := by decide +kernel
theorem dL_state_13 : decode cL_state 13 = .ok (.astore 4, 2) := by decide +kernel
theorem dL_state_15 : decode cL_state 15 = .ok (.iconst 1, 1) := by decide +kernel
theorem dL_state_16 : decode cL_state 16 = .ok (.ireturn, 1) := by decide +kernel
theorem dL_state_17 : decode cL_state 17 = .ok (.iconst 0, 1) := by decide +kernel
theorem dL_state_18 : decode cL_state 18 = .ok (.ireturn, 1) := by decide +kernel
theorem dL_about_0 : decode cL_about 0 = .ok (.aload_n 2, 1) := by decide +kernel
theorem dL_about_1 : decode cL_about 1 = .ok (.iconst 0, 1) := by decide +kernel
theorem dL_about_2 : decode cL_about 2 = .ok (.aload_n 0, 1) := by decide +kernel
theorem dL_about_3 : decode cL_about 3 = .ok (.iload_n 1, 1) := by decide +kernel
theorem dL_about_4 : decode cL_about 4 = .ok (.invokevirtual 43, 3) := by decide +kernel
theorem dL_about_7 : decode cL_about 7 = .ok (.i2l, 1) := by decide +kernel
theorem dL_about_8 : decode cL_about 8 = .ok (.lastore, 1) := by decide +kernel
theorem dL_about_9 : decode cL_about 9 = .ok (.goto 6, 3) := by decide +kernel
theorem dL_about_12 : decode cL_about 12 = .ok (.astore_n 3, 1) := by decide +kernel
theorem dL_about_13 : decode cL_about 13 = .ok (.iconst 1, 1) := by decide +kernel
theorem dL_about_14 : decode cL_about 14 = .ok (.ireturn, 1) := by decide +kernel
theorem dL_about_15 : decode cL_about 15 = .ok (.iconst 0, 1) := by decide +kernel
theorem dL_about_16 : decode cL_about 16 = .ok (.ireturn, 1) := by decide +kernel
theorem dL_law_0 : decode cL_law 0 = .ok (.new 8, 3) := by decide +kernel
theorem dL_law_3 : decode cL_law 3 = .ok (.dup, 1) := by decide +kernel
theorem dL_law_4 : decode cL_law 4 = .ok (.invokespecial 46, 3) := by decide +kernel
theorem dL_law_7 : decode cL_law 7 = .ok (.astore_n 1, 1) := by decide +kernel
theorem dL_law_8 : decode cL_law 8 = .ok (.new 47, 3) := by decide +kernel
theorem dL_law_11 : decode cL_law 11 = .ok (.dup, 1) := by decide +kernel
theorem dL_law_12 : decode cL_law 12 = .ok (.invokespecial 49, 3) := by decide +kernel
theorem dL_law_15 : decode cL_law 15 = .ok (.astore_n 2, 1) := by decide +kernel
theorem dL_law_16 : decode cL_law 16 = .ok (.iconst 1, 1) := by decide +kernel
theorem dL_law_17 : decode cL_law 17 = .ok (.newarray .long, 2) := by decide +kernel
theorem dL_law_19 : decode cL_law 19 = .ok (.astore_n 3, 1) := by decide +kernel
theorem dL_law_20 : decode cL_law 20 = .ok (.iconst 0, 1) := by decide +kernel
theorem dL_law_21 : decode cL_law 21 = .ok (.istore 4, 2) := by decide +kernel
theorem dL_law_23 : decode cL_law 23 = .ok (.iload 4, 2) := by decide +kernel
theorem dL_law_25 : decode cL_law 25 = .ok (.aload_n 0, 1) := by decide +kernel
theorem dL_law_26 : decode cL_law 26 = .ok (.arraylength, 1) := by decide +kernel
theorem dL_law_27 : decode cL_law 27 = .ok (.iconst 4, 1) := by decide +kernel
theorem dL_law_28 : decode cL_law 28 = .ok (.isub, 1) := by decide +kernel
theorem dL_law_29 : decode cL_law 29 = .ok (.if_icmp .gt 680, 3) := by decide +kernel
theorem dL_law_32 : decode cL_law 32 = .ok (.aload_n 0, 1) := by decide +kernel
theorem dL_law_33 : decode cL_law 33 = .ok (.iload 4, 2) := by decide +kernel
theorem dL_law_35 : decode cL_law 35 = .ok (.iaload, 1) := by decide +kernel
theorem dL_law_36 : decode cL_law 36 = .ok (.bipush 15, 2) := by decide +kernel
theorem dL_law_38 : decode cL_law 38 = .ok (.iand, 1) := by decide +kernel
theorem dL_law_39 : decode cL_law 39 = .ok (.tableswitch 664 0 11 #[61, 117, 197, 241, 297, 397, 410, 423, 448, 504, 540, 608], 61) := by decide +kernel
theorem dL_law_100 : decode cL_law 100 = .ok (.aload_n 1, 1) := by decide +kernel
theorem dL_law_101 : decode cL_law 101 = .ok (.aload_n 0, 1) := by decide +kernel
theorem dL_law_102 : decode cL_law 102 = .ok (.iload 4, 2) := by decide +kernel
theorem dL_law_104 : decode cL_law 104 = .ok (.iconst 1, 1) := by decide +kernel
theorem dL_law_105 : decode cL_law 105 = .ok (.iadd, 1) := by decide +kernel
theorem dL_law_106 : decode cL_law 106 = .ok (.iaload, 1) := by decide +kernel
theorem dL_law_107 : decode cL_law 107 = .ok (.aload_n 3, 1) := by decide +kernel
theorem dL_law_108 : decode cL_law 108 = .ok (.invokestatic 50, 3) := by decide +kernel
theorem dL_law_111 : decode cL_law 111 = .ok (.istore 5, 2) := by decide +kernel
theorem dL_law_113 : decode cL_law 113 = .ok (.aload_n 2, 1) := by decide +kernel
theorem dL_law_114 : decode cL_law 114 = .ok (.aload_n 0, 1) := by decide +kernel
theorem dL_law_115 : decode cL_law 115 = .ok (.iload 4, 2) := by decide +kernel
theorem dL_law_117 : decode cL_law 117 = .ok (.iconst 1, 1) := by decide +kernel
theorem dL_law_118 : decode cL_law 118 = .ok (.iadd, 1) := by decide +kernel
theorem dL_law_119 : decode cL_law 119 = .ok (.iaload, 1) := by decide +kernel
theorem dL_law_120 : decode cL_law 120 = .ok (.invokevirtual 55, 3) := by decide +kernel
theorem dL_law_123 : decode cL_law 123 = .ok (.istore 6, 2) := by decide +kernel
theorem dL_law_125 : decode cL_law 125 = .ok (.aload_n 2, 1) := by decide +kernel
theorem dL_law_126 : decode cL_law 126 = .ok (.invokevirtual 56, 3) := by decide +kernel
theorem dL_law_129 : decode cL_law 129 = .ok (.iload 5, 2) := by decide +kernel
theorem dL_law_131 : decode cL_law 131 = .ok (.if_icmp .eq 5, 3) := by decide +kernel
theorem dL_law_134 : decode cL_law 134 = .ok (.iconst 0, 1) := by decide +kernel
theorem dL_law_135 : decode cL_law 135 = .ok (.ireturn, 1) := by decide +kernel
theorem dL_law_136 : decode cL_law 136 = .ok (.iload 5, 2) := by decide +kernel
theorem dL_law_138 : decode cL_law 138 = .ok (.ifCond .ne 15, 3) := by decide +kernel
theorem dL_law_141 : decode cL_law 141 = .ok (.aload_n 3, 1) := by decide +kernel
theorem dL_law_142 : decode cL_law 142 = .ok (.iconst 0, 1) := by decide +kernel
theorem dL_law_143 : decode cL_law 143 = .ok (.laload, 1) := by decide +kernel
theorem dL_law_144 : decode cL_law 144 = .ok (.iload 6, 2) := by decide +kernel
theorem dL_law_146 : decode cL_law 146 = .ok (.i2l, 1) := by decide +kernel
theorem dL_law_147 : decode cL_law 147 = .ok (.lcmp, 1) := by decide +kernel
theorem dL_law_148 : decode cL_law 148 = .ok (.ifCond .eq 5, 3) := by decide +kernel
theorem dL_law_151 : decode cL_law 151 = .ok (.iconst 0, 1) := by decide +kernel
theorem dL_law_152 : decode cL_law 152 = .ok (.ireturn, 1) := by decide +kernel
theorem dL_law_153 : decode cL_law 153 = .ok (.goto 550, 3) := by decide +kernel
theorem dL_law_156 : decode cL_law 156 = .ok (.aload_n 1, 1) := by decide +kernel
theorem dL_law_157 : decode cL_law 157 = .ok (.aload_n 0, 1) := by decide +kernel
theorem dL_law_158 : decode cL_law 158 = .ok (.iload 4, 2) := by decide +kernel
theorem dL_law_160 : decode cL_law 160 = .ok (.iconst 1, 1) := by decide +kernel
theorem dL_law_161 : decode cL_law 161 = .ok (.iadd, 1) := by decide +kernel
theorem dL_law_162 : decode cL_law 162 = .ok (.iaload, 1) := by decide +kernel
theorem dL_law_163 : decode cL_law 163 = .ok (.aload_n 0, 1) := by decide +kernel
theorem dL_law_164 : decode cL_law 164 = .ok (.iload 4, 2) := by decide +kernel
theorem dL_law_166 : decode cL_law 166 = .ok (.iconst 2, 1) := by decide +kernel
theorem dL_law_167 : decode cL_law 167 = .ok (.iadd, 1) := by decide +kernel
theorem dL_law_168 : decode cL_law 168 = .ok (.iaload, 1) := by decide +kernel
theorem dL_law_169 : decode cL_law 169 = .ok (.aload_n 0, 1) := by decide +kernel
theorem dL_law_170 : decode cL_law 170 = .ok (.iload 4, 2) := by decide +kernel
theorem dL_law_172 : decode cL_law 172 = .ok (.iconst 3, 1) := by decide +kernel
theorem dL_law_173 : decode cL_law 173 = .ok (.iadd, 1) := by decide +kernel
theorem dL_law_174 : decode cL_law 174 = .ok (.iaload, 1) := by decide +kernel
theorem dL_law_175 : decode cL_law 175 = .ok (.aload_n 3, 1) := by decide +kernel
theorem dL_law_176 : decode cL_law 176 = .ok (.invokestatic 59, 3) := by decide +kernel
theorem dL_law_179 : decode cL_law 179 = .ok (.istore 5, 2) := by decide +kernel
theorem dL_law_181 : decode cL_law 181 = .ok (.aload_n 2, 1) := by decide +kernel
theorem dL_law_182 : decode cL_law 182 = .ok (.aload_n 0, 1) := by decide +kernel
theorem dL_law_183 : decode cL_law 183 = .ok (.iload 4, 2) := by decide +kernel
theorem dL_law_185 : decode cL_law 185 = .ok (.iconst 1, 1) := by decide +kernel
theorem dL_law_186 : decode cL_law 186 = .ok (.iadd, 1) := by decide +kernel
theorem dL_law_187 : decode cL_law 187 = .ok (.iaload, 1) := by decide +kernel
theorem dL_law_188 : decode cL_law 188 = .ok (.aload_n 0, 1) := by decide +kernel
theorem dL_law_189 : decode cL_law 189 = .ok (.iload 4, 2) := by decide +kernel
theorem dL_law_191 : decode cL_law 191 = .ok (.iconst 2, 1) := by decide +kernel
theorem dL_law_192 : decode cL_law 192 = .ok (.iadd, 1) := by decide +kernel
theorem dL_law_193 : decode cL_law 193 = .ok (.iaload, 1) := by decide +kernel
theorem dL_law_194 : decode cL_law 194 = .ok (.aload_n 0, 1) := by decide +kernel
theorem dL_law_195 : decode cL_law 195 = .ok (.iload 4, 2) := by decide +kernel
theorem dL_law_197 : decode cL_law 197 = .ok (.iconst 3, 1) := by decide +kernel
theorem dL_law_198 : decode cL_law 198 = .ok (.iadd, 1) := by decide +kernel
theorem dL_law_199 : decode cL_law 199 = .ok (.iaload, 1) := by decide +kernel
theorem dL_law_200 : decode cL_law 200 = .ok (.invokevirtual 62, 3) := by decide +kernel
theorem dL_law_203 : decode cL_law 203 = .ok (.istore 6, 2) := by decide +kernel
theorem dL_law_205 : decode cL_law 205 = .ok (.aload_n 2, 1) := by decide +kernel
theorem dL_law_206 : decode cL_law 206 = .ok (.invokevirtual 56, 3) := by decide +kernel
theorem dL_law_209 : decode cL_law 209 = .ok (.iload 5, 2) := by decide +kernel
theorem dL_law_211 : decode cL_law 211 = .ok (.if_icmp .eq 5, 3) := by decide +kernel
theorem dL_law_214 : decode cL_law 214 = .ok (.iconst 0, 1) := by decide +kernel
theorem dL_law_215 : decode cL_law 215 = .ok (.ireturn, 1) := by decide +kernel
theorem dL_law_216 : decode cL_law 216 = .ok (.iload 5, 2) := by decide +kernel
theorem dL_law_218 : decode cL_law 218 = .ok (.ifCond .ne 15, 3) := by decide +kernel
theorem dL_law_221 : decode cL_law 221 = .ok (.aload_n 3, 1) := by decide +kernel
theorem dL_law_222 : decode cL_law 222 = .ok (.iconst 0, 1) := by decide +kernel
theorem dL_law_223 : decode cL_law 223 = .ok (.laload, 1) := by decide +kernel
theorem dL_law_224 : decode cL_law 224 = .ok (.iload 6, 2) := by decide +kernel
theorem dL_law_226 : decode cL_law 226 = .ok (.i2l, 1) := by decide +kernel
theorem dL_law_227 : decode cL_law 227 = .ok (.lcmp, 1) := by decide +kernel
theorem dL_law_228 : decode cL_law 228 = .ok (.ifCond .eq 5, 3) := by decide +kernel
theorem dL_law_231 : decode cL_law 231 = .ok (.iconst 0, 1) := by decide +kernel
theorem dL_law_232 : decode cL_law 232 = .ok (.ireturn, 1) := by decide +kernel
theorem dL_law_233 : decode cL_law 233 = .ok (.goto 470, 3) := by decide +kernel
theorem dL_law_236 : decode cL_law 236 = .ok (.aload_n 1, 1) := by decide +kernel
theorem dL_law_237 : decode cL_law 237 = .ok (.aload_n 3, 1) := by decide +kernel
theorem dL_law_238 : decode cL_law 238 = .ok (.invokestatic 63, 3) := by decide +kernel
theorem dL_law_241 : decode cL_law 241 = .ok (.istore 5, 2) := by decide +kernel
theorem dL_law_243 : decode cL_law 243 = .ok (.aload_n 2, 1) := by decide +kernel
theorem dL_law_244 : decode cL_law 244 = .ok (.invokevirtual 66, 3) := by decide +kernel
theorem dL_law_247 : decode cL_law 247 = .ok (.istore 6, 2) := by decide +kernel
theorem dL_law_249 : decode cL_law 249 = .ok (.aload_n 2, 1) := by decide +kernel
theorem dL_law_250 : decode cL_law 250 = .ok (.invokevirtual 56, 3) := by decide +kernel
theorem dL_law_253 : decode cL_law 253 = .ok (.iload 5, 2) := by decide +kernel
theorem dL_law_255 : decode cL_law 255 = .ok (.if_icmp .eq 5, 3) := by decide +kernel
theorem dL_law_258 : decode cL_law 258 = .ok (.iconst 0, 1) := by decide +kernel
theorem dL_law_259 : decode cL_law 259 = .ok (.ireturn, 1) := by decide +kernel
theorem dL_law_260 : decode cL_law 260 = .ok (.iload 5, 2) := by decide +kernel
theorem dL_law_262 : decode cL_law 262 = .ok (.ifCond .ne 15, 3) := by decide +kernel
theorem dL_law_265 : decode cL_law 265 = .ok (.aload_n 3, 1) := by decide +kernel
theorem dL_law_266 : decode cL_law 266 = .ok (.iconst 0, 1) := by decide +kernel
theorem dL_law_267 : decode cL_law 267 = .ok (.laload, 1) := by decide +kernel
theorem dL_law_268 : decode cL_law 268 = .ok (.iload 6, 2) := by decide +kernel
theorem dL_law_270 : decode cL_law 270 = .ok (.i2l, 1) := by decide +kernel
theorem dL_law_271 : decode cL_law 271 = .ok (.lcmp, 1) := by decide +kernel
theorem dL_law_272 : decode cL_law 272 = .ok (.ifCond .eq 5, 3) := by decide +kernel
theorem dL_law_275 : decode cL_law 275 = .ok (.iconst 0, 1) := by decide +kernel
theorem dL_law_276 : decode cL_law 276 = .ok (.ireturn, 1) := by decide +kernel
theorem dL_law_277 : decode cL_law 277 = .ok (.goto 426, 3) := by decide +kernel
theorem dL_law_280 : decode cL_law 280 = .ok (.aload_n 1, 1) := by decide +kernel
theorem dL_law_281 : decode cL_law 281 = .ok (.aload_n 0, 1) := by decide +kernel
theorem dL_law_282 : decode cL_law 282 = .ok (.iload 4, 2) := by decide +kernel
theorem dL_law_284 : decode cL_law 284 = .ok (.iconst 1, 1) := by decide +kernel
theorem dL_law_285 : decode cL_law 285 = .ok (.iadd, 1) := by decide +kernel
theorem dL_law_286 : decode cL_law 286 = .ok (.iaload, 1) := by decide +kernel
theorem dL_law_287 : decode cL_law 287 = .ok (.aload_n 3, 1) := by decide +kernel
theorem dL_law_288 : decode cL_law 288 = .ok (.invokestatic 67, 3) := by decide +kernel
theorem dL_law_291 : decode cL_law 291 = .ok (.istore 5, 2) := by decide +kernel
theorem dL_law_293 : decode cL_law 293 = .ok (.aload_n 2, 1) := by decide +kernel
theorem dL_law_294 : decode cL_law 294 = .ok (.aload_n 0, 1) := by decide +kernel
theorem dL_law_295 : decode cL_law 295 = .ok (.iload 4, 2) := by decide +kernel
theorem dL_law_297 : decode cL_law 297 = .ok (.iconst 1, 1) := by decide +kernel
theorem dL_law_298 : decode cL_law 298 = .ok (.iadd, 1) := by decide +kernel
theorem dL_law_299 : decode cL_law 299 = .ok (.iaload, 1) := by decide +kernel
theorem dL_law_300 : decode cL_law 300 = .ok (.invokevirtual 69, 3) := by decide +kernel
theorem dL_law_303 : decode cL_law 303 = .ok (.istore 6, 2) := by decide +kernel
theorem dL_law_305 : decode cL_law 305 = .ok (.aload_n 2, 1) := by decide +kernel
theorem dL_law_306 : decode cL_law 306 = .ok (.invokevirtual 56, 3) := by decide +kernel
theorem dL_law_309 : decode cL_law 309 = .ok (.iload 5, 2) := by decide +kernel
theorem dL_law_311 : decode cL_law 311 = .ok (.if_icmp .eq 5, 3) := by decide +kernel
theorem dL_law_314 : decode cL_law 314 = .ok (.iconst 0, 1) := by decide +kernel
theorem dL_law_315 : decode cL_law 315 = .ok (.ireturn, 1) := by decide +kernel
theorem dL_law_316 : decode cL_law 316 = .ok (.iload 5, 2) := by decide +kernel
theorem dL_law_318 : decode cL_law 318 = .ok (.ifCond .ne 15, 3) := by decide +kernel
theorem dL_law_321 : decode cL_law 321 = .ok (.aload_n 3, 1) := by decide +kernel
theorem dL_law_322 : decode cL_law 322 = .ok (.iconst 0, 1) := by decide +kernel
theorem dL_law_323 : decode cL_law 323 = .ok (.laload, 1) := by decide +kernel
theorem dL_law_324 : decode cL_law 324 = .ok (.iload 6, 2) := by decide +kernel
theorem dL_law_326 : decode cL_law 326 = .ok (.i2l, 1) := by decide +kernel
theorem dL_law_327 : decode cL_law 327 = .ok (.lcmp, 1) := by decide +kernel
theorem dL_law_328 : decode cL_law 328 = .ok (.ifCond .eq 5, 3) := by decide +kernel
theorem dL_law_331 : decode cL_law 331 = .ok (.iconst 0, 1) := by decide +kernel
theorem dL_law_332 : decode cL_law 332 = .ok (.ireturn, 1) := by decide +kernel
theorem dL_law_333 : decode cL_law 333 = .ok (.goto 370, 3) := by decide +kernel
theorem dL_law_336 : decode cL_law 336 = .ok (.aload_n 1, 1) := by decide +kernel
theorem dL_law_337 : decode cL_law 337 = .ok (.aload_n 0, 1) := by decide +kernel
theorem dL_law_338 : decode cL_law 338 = .ok (.iload 4, 2) := by decide +kernel
theorem dL_law_340 : decode cL_law 340 = .ok (.iconst 1, 1) := by decide +kernel
theorem dL_law_341 : decode cL_law 341 = .ok (.iadd, 1) := by decide +kernel
theorem dL_law_342 : decode cL_law 342 = .ok (.iaload, 1) := by decide +kernel
theorem dL_law_343 : decode cL_law 343 = .ok (.i2l, 1) := by decide +kernel
theorem dL_law_344 : decode cL_law 344 = .ok (.bipush 32, 2) := by decide +kernel
theorem dL_law_346 : decode cL_law 346 = .ok (.lshl, 1) := by decide +kernel
theorem dL_law_347 : decode cL_law 347 = .ok (.aload_n 0, 1) := by decide +kernel
theorem dL_law_348 : decode cL_law 348 = .ok (.iload 4, 2) := by decide +kernel
theorem dL_law_350 : decode cL_law 350 = .ok (.iconst 2, 1) := by decide +kernel
theorem dL_law_351 : decode cL_law 351 = .ok (.iadd, 1) := by decide +kernel
theorem dL_law_352 : decode cL_law 352 = .ok (.iaload, 1) := by decide +kernel
theorem dL_law_353 : decode cL_law 353 = .ok (.i2l, 1) := by decide +kernel
theorem dL_law_354 : decode cL_law 354 = .ok (.ldc2_w 70, 3) := by decide +kernel
theorem dL_law_357 : decode cL_law 357 = .ok (.land, 1) := by decide +kernel
theorem dL_law_358 : decode cL_law 358 = .ok (.lor, 1) := by decide +kernel
theorem dL_law_359 : decode cL_law 359 = .ok (.aload_n 0, 1) := by decide +kernel
theorem dL_law_360 : decode cL_law 360 = .ok (.iload 4, 2) := by decide +kernel
theorem dL_law_362 : decode cL_law 362 = .ok (.iconst 3, 1) := by decide +kernel
theorem dL_law_363 : decode cL_law 363 = .ok (.iadd, 1) := by decide +kernel
theorem dL_law_364 : decode cL_law 364 = .ok (.iaload, 1) := by decide +kernel
theorem dL_law_365 : decode cL_law 365 = .ok (.aload_n 3, 1) := by decide +kernel
theorem dL_law_366 : decode cL_law 366 = .ok (.invokestatic 72, 3) := by decide +kernel
theorem dL_law_369 : decode cL_law 369 = .ok (.istore 5, 2) := by decide +kernel
theorem dL_law_371 : decode cL_law 371 = .ok (.aload_n 2, 1) := by decide +kernel
theorem dL_law_372 : decode cL_law 372 = .ok (.aload_n 0, 1) := by decide +kernel
theorem dL_law_373 : decode cL_law 373 = .ok (.iload 4, 2) := by decide +kernel
theorem dL_law_375 : decode cL_law 375 = .ok (.iconst 1, 1) := by decide +kernel
theorem dL_law_376 : decode cL_law 376 = .ok (.iadd, 1) := by decide +kernel
theorem dL_law_377 : decode cL_law 377 = .ok (.iaload, 1) := by decide +kernel
theorem dL_law_378 : decode cL_law 378 = .ok (.i2l, 1) := by decide +kernel
theorem dL_law_379 : decode cL_law 379 = .ok (.bipush 32, 2) := by decide +kernel
theorem dL_law_381 : decode cL_law 381 = .ok (.lshl, 1) := by decide +kernel
theorem dL_law_382 : decode cL_law 382 = .ok (.aload_n 0, 1) := by decide +kernel
theorem dL_law_383 : decode cL_law 383 = .ok (.iload 4, 2) := by decide +kernel
theorem dL_law_385 : decode cL_law 385 = .ok (.iconst 2, 1) := by decide +kernel
theorem dL_law_386 : decode cL_law 386 = .ok (.iadd, 1) := by decide +kernel
theorem dL_law_387 : decode cL_law 387 = .ok (.iaload, 1) := by decide +kernel
theorem dL_law_388 : decode cL_law 388 = .ok (.i2l, 1) := by decide +kernel
theorem dL_law_389 : decode cL_law 389 = .ok (.ldc2_w 70, 3) := by decide +kernel
theorem dL_law_392 : decode cL_law 392 = .ok (.land, 1) := by decide +kernel
theorem dL_law_393 : decode cL_law 393 = .ok (.lor, 1) := by decide +kernel
theorem dL_law_394 : decode cL_law 394 = .ok (.aload_n 0, 1) := by decide +kernel
theorem dL_law_395 : decode cL_law 395 = .ok (.iload 4, 2) := by decide +kernel
theorem dL_law_397 : decode cL_law 397 = .ok (.iconst 3, 1) := by decide +kernel
theorem dL_law_398 : decode cL_law 398 = .ok (.iadd, 1) := by decide +kernel
theorem dL_law_399 : decode cL_law 399 = .ok (.iaload, 1) := by decide +kernel
theorem dL_law_400 : decode cL_law 400 = .ok (.invokevirtual 75, 3) := by decide +kernel
theorem dL_law_403 : decode cL_law 403 = .ok (.istore 6, 2) := by decide +kernel
theorem dL_law_405 : decode cL_law 405 = .ok (.aload_n 2, 1) := by decide +kernel
theorem dL_law_406 : decode cL_law 406 = .ok (.invokevirtual 56, 3) := by decide +kernel
theorem dL_law_409 : decode cL_law 409 = .ok (.iload 5, 2) := by decide +kernel
theorem dL_law_411 : decode cL_law 411 = .ok (.if_icmp .eq 5, 3) := by decide +kernel
theorem dL_law_414 : decode cL_law 414 = .ok (.iconst 0, 1) := by decide +kernel
theorem dL_law_415 : decode cL_law 415 = .ok (.ireturn, 1) := by decide +kernel
theorem dL_law_416 : decode cL_law 416 = .ok (.iload 5, 2) := by decide +kernel
theorem dL_law_418 : decode cL_law 418 = .ok (.ifCond .ne 15, 3) := by decide +kernel
theorem dL_law_421 : decode cL_law 421 = .ok (.aload_n 3, 1) := by decide +kernel
theorem dL_law_422 : decode cL_law 422 = .ok (.iconst 0, 1) := by decide +kernel
theorem dL_law_423 : decode cL_law 423 = .ok (.laload, 1) := by decide +kernel
theorem dL_law_424 : decode cL_law 424 = .ok (.iload 6, 2) := by decide +kernel
theorem dL_law_426 : decode cL_law 426 = .ok (.i2l, 1) := by decide +kernel
theorem dL_law_427 : decode cL_law 427 = .ok (.lcmp, 1) := by decide +kernel
theorem dL_law_428 : decode cL_law 428 = .ok (.ifCond .eq 5, 3) := by decide +kernel
theorem dL_law_431 : decode cL_law 431 = .ok (.iconst 0, 1) := by decide +kernel
theorem dL_law_432 : decode cL_law 432 = .ok (.ireturn, 1) := by decide +kernel
theorem dL_law_433 : decode cL_law 433 = .ok (.goto 270, 3) := by decide +kernel
theorem dL_law_436 : decode cL_law 436 = .ok (.aload_n 1, 1) := by decide +kernel
theorem dL_law_437 : decode cL_law 437 = .ok (.invokevirtual 76, 3) := by decide +kernel
theorem dL_law_440 : decode cL_law 440 = .ok (.aload_n 2, 1) := by decide +kernel
theorem dL_law_441 : decode cL_law 441 = .ok (.invokevirtual 79, 3) := by decide +kernel
theorem dL_law_444 : decode cL_law 444 = .ok (.if_icmp .eq 259, 3) := by decide +kernel
theorem dL_law_447 : decode cL_law 447 = .ok (.iconst 0, 1) := by decide +kernel
theorem dL_law_448 : decode cL_law 448 = .ok (.ireturn, 1) := by decide +kernel
theorem dL_law_449 : decode cL_law 449 = .ok (.aload_n 1, 1) := by decide +kernel
theorem dL_law_450 : decode cL_law 450 = .ok (.invokevirtual 80, 3) := by decide +kernel
theorem dL_law_453 : decode cL_law 453 = .ok (.aload_n 2, 1) := by decide +kernel
theorem dL_law_454 : decode cL_law 454 = .ok (.invokevirtual 83, 3) := by decide +kernel
theorem dL_law_457 : decode cL_law 457 = .ok (.if_icmp .eq 246, 3) := by decide +kernel
theorem dL_law_460 : decode cL_law 460 = .ok (.iconst 0, 1) := by decide +kernel
theorem dL_law_461 : decode cL_law 461 = .ok (.ireturn, 1) := by decide +kernel
theorem dL_law_462 : decode cL_law 462 = .ok (.aload_n 1, 1) := by decide +kernel
theorem dL_law_463 : decode cL_law 463 = .ok (.aload_n 0, 1) := by decide +kernel
theorem dL_law_464 : decode cL_law 464 = .ok (.iload 4, 2) := by decide +kernel
theorem dL_law_466 : decode cL_law 466 = .ok (.iconst 1, 1) := by decide +kernel
theorem dL_law_467 : decode cL_law 467 = .ok (.iadd, 1) := by decide +kernel
theorem dL_law_468 : decode cL_law 468 = .ok (.iaload, 1) := by decide +kernel
theorem dL_law_469 : decode cL_law 469 = .ok (.invokevirtual 84, 3) := by decide +kernel
theorem dL_law_472 : decode cL_law 472 = .ok (.aload_n 2, 1) := by decide +kernel
theorem dL_law_473 : decode cL_law 473 = .ok (.aload_n 0, 1) := by decide +kernel
theorem dL_law_474 : decode cL_law 474 = .ok (.iload 4, 2) := by decide +kernel
theorem dL_law_476 : decode cL_law 476 = .ok (.iconst 1, 1) := by decide +kernel
theorem dL_law_477 : decode cL_law 477 = .ok (.iadd, 1) := by decide +kernel
theorem dL_law_478 : decode cL_law 478 = .ok (.iaload, 1) := by decide +kernel
theorem dL_law_479 : decode cL_law 479 = .ok (.invokevirtual 87, 3) := by decide +kernel
theorem dL_law_482 : decode cL_law 482 = .ok (.if_icmp .eq 221, 3) := by decide +kernel
theorem dL_law_485 : decode cL_law 485 = .ok (.iconst 0, 1) := by decide +kernel
theorem dL_law_486 : decode cL_law 486 = .ok (.ireturn, 1) := by decide +kernel
theorem dL_law_487 : decode cL_law 487 = .ok (.aload_n 1, 1) := by decide +kernel
theorem dL_law_488 : decode cL_law 488 = .ok (.aload_n 0, 1) := by decide +kernel
theorem dL_law_489 : decode cL_law 489 = .ok (.iload 4, 2) := by decide +kernel
theorem dL_law_491 : decode cL_law 491 = .ok (.iconst 1, 1) := by decide +kernel
theorem dL_law_492 : decode cL_law 492 = .ok (.iadd, 1) := by decide +kernel
theorem dL_law_493 : decode cL_law 493 = .ok (.iaload, 1) := by decide +kernel
theorem dL_law_494 : decode cL_law 494 = .ok (.aload_n 3, 1) := by decide +kernel
theorem dL_law_495 : decode cL_law 495 = .ok (.invokestatic 88, 3) := by decide +kernel
theorem dL_law_498 : decode cL_law 498 = .ok (.istore 5, 2) := by decide +kernel
theorem dL_law_500 : decode cL_law 500 = .ok (.aload_n 2, 1) := by decide +kernel
theorem dL_law_501 : decode cL_law 501 = .ok (.aload_n 0, 1) := by decide +kernel
theorem dL_law_502 : decode cL_law 502 = .ok (.iload 4, 2) := by decide +kernel
theorem dL_law_504 : decode cL_law 504 = .ok (.iconst 1, 1) := by decide +kernel
theorem dL_law_505 : decode cL_law 505 = .ok (.iadd, 1) := by decide +kernel
theorem dL_law_506 : decode cL_law 506 = .ok (.iaload, 1) := by decide +kernel
theorem dL_law_507 : decode cL_law 507 = .ok (.invokevirtual 90, 3) := by decide +kernel
theorem dL_law_510 : decode cL_law 510 = .ok (.istore 6, 2) := by decide +kernel
theorem dL_law_512 : decode cL_law 512 = .ok (.aload_n 2, 1) := by decide +kernel
theorem dL_law_513 : decode cL_law 513 = .ok (.invokevirtual 56, 3) := by decide +kernel
theorem dL_law_516 : decode cL_law 516 = .ok (.iload 5, 2) := by decide +kernel
theorem dL_law_518 : decode cL_law 518 = .ok (.if_icmp .eq 5, 3) := by decide +kernel
theorem dL_law_521 : decode cL_law 521 = .ok (.iconst 0, 1) := by decide +kernel
theorem dL_law_522 : decode cL_law 522 = .ok (.ireturn, 1) := by decide +kernel
theorem dL_law_523 : decode cL_law 523 = .ok (.iload 5, 2) := by decide +kernel
theorem dL_law_525 : decode cL_law 525 = .ok (.ifCond .ne 15, 3) := by decide +kernel
theorem dL_law_528 : decode cL_law 528 = .ok (.aload_n 3, 1) := by decide +kernel
theorem dL_law_529 : decode cL_law 529 = .ok (.iconst 0, 1) := by decide +kernel
theorem dL_law_530 : decode cL_law 530 = .ok (.laload, 1) := by decide +kernel
theorem dL_law_531 : decode cL_law 531 = .ok (.iload 6, 2) := by decide +kernel
theorem dL_law_533 : decode cL_law 533 = .ok (.i2l, 1) := by decide +kernel
theorem dL_law_534 : decode cL_law 534 = .ok (.lcmp, 1) := by decide +kernel
theorem dL_law_535 : decode cL_law 535 = .ok (.ifCond .eq 5, 3) := by decide +kernel
theorem dL_law_538 : decode cL_law 538 = .ok (.iconst 0, 1) := by decide +kernel
theorem dL_law_539 : decode cL_law 539 = .ok (.ireturn, 1) := by decide +kernel
theorem dL_law_540 : decode cL_law 540 = .ok (.goto 163, 3) := by decide +kernel
theorem dL_law_543 : decode cL_law 543 = .ok (.aload_n 1, 1) := by decide +kernel
theorem dL_law_544 : decode cL_law 544 = .ok (.aload_n 0, 1) := by decide +kernel
theorem dL_law_545 : decode cL_law 545 = .ok (.iload 4, 2) := by decide +kernel
theorem dL_law_547 : decode cL_law 547 = .ok (.iconst 1, 1) := by decide +kernel
theorem dL_law_548 : decode cL_law 548 = .ok (.iadd, 1) := by decide +kernel
theorem dL_law_549 : decode cL_law 549 = .ok (.iaload, 1) := by decide +kernel
theorem dL_law_550 : decode cL_law 550 = .ok (.invokestatic 91, 3) := by decide +kernel
theorem dL_law_553 : decode cL_law 553 = .ok (.istore 5, 2) := by decide +kernel
theorem dL_law_555 : decode cL_law 555 = .ok (.aload_n 2, 1) := by decide +kernel
theorem dL_law_556 : decode cL_law 556 = .ok (.aload_n 0, 1) := by decide +kernel
theorem dL_law_557 : decode cL_law 557 = .ok (.iload 4, 2) := by decide +kernel
theorem dL_law_559 : decode cL_law 559 = .ok (.iconst 1, 1) := by decide +kernel
theorem dL_law_560 : decode cL_law 560 = .ok (.iadd, 1) := by decide +kernel
theorem dL_law_561 : decode cL_law 561 = .ok (.iaload, 1) := by decide +kernel
theorem dL_law_562 : decode cL_law 562 = .ok (.invokevirtual 94, 3) := by decide +kernel
theorem dL_law_565 : decode cL_law 565 = .ok (.aload_n 2, 1) := by decide +kernel
theorem dL_law_566 : decode cL_law 566 = .ok (.invokevirtual 56, 3) := by decide +kernel
theorem dL_law_569 : decode cL_law 569 = .ok (.iload 5, 2) := by decide +kernel
theorem dL_law_571 : decode cL_law 571 = .ok (.if_icmp .eq 5, 3) := by decide +kernel
theorem dL_law_574 : decode cL_law 574 = .ok (.iconst 0, 1) := by decide +kernel
theorem dL_law_575 : decode cL_law 575 = .ok (.ireturn, 1) := by decide +kernel
theorem dL_law_576 : decode cL_law 576 = .ok (.goto 127, 3) := by decide +kernel
theorem dL_law_579 : decode cL_law 579 = .ok (.aload_n 1, 1) := by decide +kernel
theorem dL_law_580 : decode cL_law 580 = .ok (.aload_n 0, 1) := by decide +kernel
theorem dL_law_581 : decode cL_law 581 = .ok (.iload 4, 2) := by decide +kernel
theorem dL_law_583 : decode cL_law 583 = .ok (.iconst 1, 1) := by decide +kernel
theorem dL_law_584 : decode cL_law 584 = .ok (.iadd, 1) := by decide +kernel
theorem dL_law_585 : decode cL_law 585 = .ok (.iaload, 1) := by decide +kernel
theorem dL_law_586 : decode cL_law 586 = .ok (.aload_n 0, 1) := by decide +kernel
theorem dL_law_587 : decode cL_law 587 = .ok (.iload 4, 2) := by decide +kernel
theorem dL_law_589 : decode cL_law 589 = .ok (.iconst 2, 1) := by decide +kernel
theorem dL_law_590 : decode cL_law 590 = .ok (.iadd, 1) := by decide +kernel
theorem dL_law_591 : decode cL_law 591 = .ok (.iaload, 1) := by decide +kernel
theorem dL_law_592 : decode cL_law 592 = .ok (.aload_n 3, 1) := by decide +kernel
theorem dL_law_593 : decode cL_law 593 = .ok (.invokestatic 95, 3) := by decide +kernel
theorem dL_law_596 : decode cL_law 596 = .ok (.istore 5, 2) := by decide +kernel
theorem dL_law_598 : decode cL_law 598 = .ok (.aload_n 2, 1) := by decide +kernel
theorem dL_law_599 : decode cL_law 599 = .ok (.aload_n 0, 1) := by decide +kernel
theorem dL_law_600 : decode cL_law 600 = .ok (.iload 4, 2) := by decide +kernel
theorem dL_law_602 : decode cL_law 602 = .ok (.iconst 1, 1) := by decide +kernel
theorem dL_law_603 : decode cL_law 603 = .ok (.iadd, 1) := by decide +kernel
theorem dL_law_604 : decode cL_law 604 = .ok (.iaload, 1) := by decide +kernel
theorem dL_law_605 : decode cL_law 605 = .ok (.aload_n 0, 1) := by decide +kernel
theorem dL_law_606 : decode cL_law 606 = .ok (.iload 4, 2) := by decide +kernel
theorem dL_law_608 : decode cL_law 608 = .ok (.iconst 2, 1) := by decide +kernel
theorem dL_law_609 : decode cL_law 609 = .ok (.iadd, 1) := by decide +kernel
theorem dL_law_610 : decode cL_law 610 = .ok (.iaload, 1) := by decide +kernel
theorem dL_law_611 : decode cL_law 611 = .ok (.invokevirtual 98, 3) := by decide +kernel
theorem dL_law_614 : decode cL_law 614 = .ok (.istore 6, 2) := by decide +kernel
theorem dL_law_616 : decode cL_law 616 = .ok (.aload_n 2, 1) := by decide +kernel
theorem dL_law_617 : decode cL_law 617 = .ok (.invokevirtual 56, 3) := by decide +kernel
theorem dL_law_620 : decode cL_law 620 = .ok (.iload 5, 2) := by decide +kernel
theorem dL_law_622 : decode cL_law 622 = .ok (.if_icmp .eq 5, 3) := by decide +kernel
theorem dL_law_625 : decode cL_law 625 = .ok (.iconst 0, 1) := by decide +kernel
theorem dL_law_626 : decode cL_law 626 = .ok (.ireturn, 1) := by decide +kernel
theorem dL_law_627 : decode cL_law 627 = .ok (.iload 5, 2) := by decide +kernel
theorem dL_law_629 : decode cL_law 629 = .ok (.ifCond .ne 15, 3) := by decide +kernel
theorem dL_law_632 : decode cL_law 632 = .ok (.aload_n 3, 1) := by decide +kernel
theorem dL_law_633 : decode cL_law 633 = .ok (.iconst 0, 1) := by decide +kernel
theorem dL_law_634 : decode cL_law 634 = .ok (.laload, 1) := by decide +kernel
theorem dL_law_635 : decode cL_law 635 = .ok (.iload 6, 2) := by decide +kernel
theorem dL_law_637 : decode cL_law 637 = .ok (.i2l, 1) := by decide +kernel
theorem dL_law_638 : decode cL_law 638 = .ok (.lcmp, 1) := by decide +kernel
theorem dL_law_639 : decode cL_law 639 = .ok (.ifCond .eq 5, 3) := by decide +kernel
theorem dL_law_642 : decode cL_law 642 = .ok (.iconst 0, 1) := by decide +kernel
theorem dL_law_643 : decode cL_law 643 = .ok (.ireturn, 1) := by decide +kernel
theorem dL_law_644 : decode cL_law 644 = .ok (.goto 59, 3) := by decide +kernel
theorem dL_law_647 : decode cL_law 647 = .ok (.aload_n 1, 1) := by decide +kernel
theorem dL_law_648 : decode cL_law 648 = .ok (.aload_n 0, 1) := by decide +kernel
theorem dL_law_649 : decode cL_law 649 = .ok (.iload 4, 2) := by decide +kernel
theorem dL_law_651 : decode cL_law 651 = .ok (.iconst 1, 1) := by decide +kernel
theorem dL_law_652 : decode cL_law 652 = .ok (.iadd, 1) := by decide +kernel
theorem dL_law_653 : decode cL_law 653 = .ok (.iaload, 1) := by decide +kernel
theorem dL_law_654 : decode cL_law 654 = .ok (.aload_n 3, 1) := by decide +kernel
theorem dL_law_655 : decode cL_law 655 = .ok (.invokestatic 99, 3) := by decide +kernel
theorem dL_law_658 : decode cL_law 658 = .ok (.istore 5, 2) := by decide +kernel
theorem dL_law_660 : decode cL_law 660 = .ok (.aload_n 2, 1) := by decide +kernel
theorem dL_law_661 : decode cL_law 661 = .ok (.aload_n 0, 1) := by decide +kernel
theorem dL_law_662 : decode cL_law 662 = .ok (.iload 4, 2) := by decide +kernel
theorem dL_law_664 : decode cL_law 664 = .ok (.iconst 1, 1) := by decide +kernel
theorem dL_law_665 : decode cL_law 665 = .ok (.iadd, 1) := by decide +kernel
theorem dL_law_666 : decode cL_law 666 = .ok (.iaload, 1) := by decide +kernel
theorem dL_law_667 : decode cL_law 667 = .ok (.invokevirtual 101, 3) := by decide +kernel
theorem dL_law_670 : decode cL_law 670 = .ok (.istore 6, 2) := by decide +kernel
theorem dL_law_672 : decode cL_law 672 = .ok (.aload_n 2, 1) := by decide +kernel
theorem dL_law_673 : decode cL_law 673 = .ok (.invokevirtual 56, 3) := by decide +kernel
theorem dL_law_676 : decode cL_law 676 = .ok (.iload 5, 2) := by decide +kernel
theorem dL_law_678 : decode cL_law 678 = .ok (.if_icmp .eq 5, 3) := by decide +kernel
theorem dL_law_681 : decode cL_law 681 = .ok (.iconst 0, 1) := by decide +kernel
theorem dL_law_682 : decode cL_law 682 = .ok (.ireturn, 1) := by decide +kernel
theorem dL_law_683 : decode cL_law 683 = .ok (.iload 5, 2) := by decide +kernel
theorem dL_law_685 : decode cL_law 685 = .ok (.ifCond .ne 15, 3) := by decide +kernel
theorem dL_law_688 : decode cL_law 688 = .ok (.aload_n 3, 1) := by decide +kernel
theorem dL_law_689 : decode cL_law 689 = .ok (.iconst 0, 1) := by decide +kernel
theorem dL_law_690 : decode cL_law 690 = .ok (.laload, 1) := by decide +kernel
theorem dL_law_691 : decode cL_law 691 = .ok (.iload 6, 2) := by decide +kernel
theorem dL_law_693 : decode cL_law 693 = .ok (.i2l, 1) := by decide +kernel
theorem dL_law_694 : decode cL_law 694 = .ok (.lcmp, 1) := by decide +kernel
theorem dL_law_695 : decode cL_law 695 = .ok (.ifCond .eq 5, 3) := by decide +kernel
theorem dL_law_698 : decode cL_law 698 = .ok (.iconst 0, 1) := by decide +kernel
theorem dL_law_699 : decode cL_law 699 = .ok (.ireturn, 1) := by decide +kernel
theorem dL_law_700 : decode cL_law 700 = .ok (.goto 3, 3) := by decide +kernel
theorem dL_law_703 : decode cL_law 703 = .ok (.iinc 4 4, 3) := by decide +kernel
theorem dL_law_706 : decode cL_law 706 = .ok (.goto (-683), 3) := by decide +kernel
theorem dL_law_709 : decode cL_law 709 = .ok (.iconst 1, 1) := by decide +kernel
theorem dL_law_710 : decode cL_law 710 = .ok (.ireturn, 1) := by decide +kernel
end
section
/-! the law's whole world, one state of ints and longs; names of my own begin with z -/
abbrev zs_T : Type := (Nat → Nat → Int32) × (Nat → Nat → Int64)
def zs_ri (S : zs_T) (k : Nat) (f : Nat → Int32) : zs_T := (va_up S.1 k f, S.2)
def zs_rl (S : zs_T) (k : Nat) (f : Nat → Int64) : zs_T := (S.1, va_up S.2 k f)
abbrev zs_wi (S : zs_T) (k j : Nat) (v : Int32) : zs_T := zs_ri S k (upd (S.1 k) j v)
abbrev zs_wl (S : zs_T) (k j : Nat) (v : Int64) : zs_T := zs_rl S k (vp_updL (S.2 k) j v)
abbrev zg_T : Type := va_G × ClassId × ClassId × (Nat → Nat) × (Nat → Nat) × Nat
abbrev zg_D (G : zg_T) : va_G := G.1
abbrev zg_I (G : zg_T) : ClassId := G.2.1
abbrev zg_J (G : zg_T) : ClassId := G.2.2.1
abbrev zg_q (G : zg_T) : Nat → Nat := G.2.2.2.1
abbrev zg_t (G : zg_T) : Nat → Nat := G.2.2.2.2.1
abbrev zg_b (G : zg_T) : Nat := G.2.2.2.2.2
def zg_A (G : zg_T) : Nat → Prop := fun x => zg_b G ≤ x
def zw_L (G : zg_T) (S : zs_T) : va_W := [
  ((zg_q G 0), .inr (9, [.ref (zg_q G 1), .ref (zg_q G 2), .ref (zg_q G 3), .ref (zg_q G 4), .ref (zg_q G 5), .ref (zg_q G 29), .int (S.1 0 6), .int (S.1 0 7)])),
  ((zg_q G 1), .inl (zg_I G, 160, .inl (S.1 1))),
  ((zg_q G 2), .inl (zg_I G, 33, .inl (S.1 2))),
  ((zg_q G 3), .inl (zg_I G, 76, .inl (S.1 3))),
  ((zg_q G 4), .inl (zg_I G, 160, .inl (S.1 4))),
  ((zg_q G 5), .inr (1, [.ref (zg_q G 8), .ref (zg_q G 9), .ref (zg_q G 15), .ref (zg_q G 19), .ref (zg_q G 22), .ref (zg_q G 24), .ref (zg_q G 27), .ref (zg_q G 6), .ref (zg_q G 7), .int (S.1 5 9)])),
  ((zg_q G 6), .inl (zg_I G, 160, .inl (S.1 6))),
  ((zg_q G 7), .inl (zg_I G, 8, .inl (S.1 7))),
  ((zg_q G 8), .inr (3, [.int (S.1 8 0), .int (S.1 8 1), .int (S.1 8 2)])),
  ((zg_q G 9), .inr (5, [.ref (zg_q G 10), .ref (zg_q G 11), .ref (zg_q G 12), .ref (zg_q G 13), .ref (zg_q G 14)])),
  ((zg_q G 10), .inl (zg_I G, 160, .inl (S.1 10))),
  ((zg_q G 11), .inl (zg_I G, 9, .inl (S.1 11))),
  ((zg_q G 12), .inl (zg_I G, 9, .inl (S.1 12))),
  ((zg_q G 13), .inl (zg_I G, 9, .inl (S.1 13))),
  ((zg_q G 14), .inl (zg_I G, 8, .inl (S.1 14))),
  ((zg_q G 15), .inr (2, [.ref (zg_q G 16), .ref (zg_q G 17), .ref (zg_q G 18)])),
  ((zg_q G 16), .inl (zg_I G, 8, .inl (S.1 16))),
  ((zg_q G 17), .inl (zg_I G, 8, .inl (S.1 17))),
  ((zg_q G 18), .inl (zg_I G, 8, .inl (S.1 18))),
  ((zg_q G 19), .inr (4, [.ref (zg_q G 20), .ref (zg_q G 21)])),
  ((zg_q G 20), .inl (zg_I G, 280, .inl (S.1 20))),
  ((zg_q G 21), .inl (zg_I G, 40, .inl (S.1 21))),
  ((zg_q G 22), .inr (7, [.ref (zg_q G 23), .int (S.1 22 1), .int (S.1 22 2)])),
  ((zg_q G 23), .inl (zg_I G, 40, .inl (S.1 23))),
  ((zg_q G 24), .inr (8, [.ref (zg_q G 25), .ref (zg_q G 26), .int (S.1 24 2), .int (S.1 24 3)])),
  ((zg_q G 25), .inl (zg_I G, 50, .inl (S.1 25))),
  ((zg_q G 26), .inl (zg_I G, 40, .inl (S.1 26))),
  ((zg_q G 27), .inr (6, [.ref (zg_q G 28), .int (S.1 27 1), .int (S.1 27 2)])),
  ((zg_q G 28), .inl (zg_I G, 40, .inl (S.1 28))),
  ((zg_q G 29), .inr (0, [.ref (zg_q G 31), .ref (zg_q G 35), .ref (zg_q G 38), .ref (zg_q G 30), .int (S.1 29 4), .int (S.1 29 5), .int (S.1 29 6)])),
  ((zg_q G 30), .inl (zg_I G, 9, .inl (S.1 30))),
  ((zg_q G 31), .inr (2, [.ref (zg_q G 32), .ref (zg_q G 33), .ref (zg_q G 34)])),
  ((zg_q G 32), .inl (zg_I G, 8, .inl (S.1 32))),
  ((zg_q G 33), .inl (zg_I G, 8, .inl (S.1 33))),
  ((zg_q G 34), .inl (zg_I G, 8, .inl (S.1 34))),
  ((zg_q G 35), .inr (4, [.ref (zg_q G 36), .ref (zg_q G 37)])),
  ((zg_q G 36), .inl (zg_I G, 280, .inl (S.1 36))),
  ((zg_q G 37), .inl (zg_I G, 40, .inl (S.1 37))),
  ((zg_q G 38), .inr (6, [.ref (zg_q G 39), .int (S.1 38 1), .int (S.1 38 2)])),
  ((zg_q G 39), .inl (zg_I G, 40, .inl (S.1 39))),
  ((zg_q G 40), .inr (10, [.int (S.1 40 0), .int (S.1 40 1), .ref (zg_q G 41), .int (S.1 40 3), .ref (zg_q G 42), .ref (zg_q G 43), .ref (zg_q G 44), .int (S.1 40 7), .int (S.1 40 8), .long (S.2 40 9), .long (S.2 40 10), .long (S.2 40 11), .ref (zg_q G 45), .ref (zg_q G 46), .ref (zg_q G 47), .ref (zg_q G 48), .int (S.1 40 16), .long (S.2 40 17), .ref (zg_q G 49), .ref (zg_q G 50), .ref (zg_q G 51), .ref (zg_q G 52), .ref (zg_q G 53), .ref (zg_q G 54), .ref (zg_q G 55), .ref (zg_q G 56), .ref (zg_q G 57), .ref (zg_q G 58), .int (S.1 40 28), .int (S.1 40 29)])),
  ((zg_q G 41), .inl (zg_J G, 160, .inr (.inl (S.2 41)))),
  ((zg_q G 42), .inl (zg_I G, 33, .inl (S.1 42))),
  ((zg_q G 43), .inl (zg_I G, 76, .inl (S.1 43))),
  ((zg_q G 44), .inl (zg_I G, 160, .inl (S.1 44))),
  ((zg_q G 45), .inl (zg_J G, 16, .inr (.inl (S.2 45)))),
  ((zg_q G 46), .inl (zg_J G, 9, .inr (.inl (S.2 46)))),
  ((zg_q G 47), .inl (zg_J G, 9, .inr (.inl (S.2 47)))),
  ((zg_q G 48), .inl (zg_J G, 560, .inr (.inl (S.2 48)))),
  ((zg_q G 49), .inl (zg_J G, 160, .inr (.inl (S.2 49)))),
  ((zg_q G 50), .inl (zg_J G, 160, .inr (.inl (S.2 50)))),
  ((zg_q G 51), .inl (zg_J G, 40, .inr (.inl (S.2 51)))),
  ((zg_q G 52), .inl (zg_J G, 40, .inr (.inl (S.2 52)))),
  ((zg_q G 53), .inl (zg_J G, 9, .inr (.inl (S.2 53)))),
  ((zg_q G 54), .inl (zg_J G, 10, .inr (.inl (S.2 54)))),
  ((zg_q G 55), .inl (zg_J G, 10, .inr (.inl (S.2 55)))),
  ((zg_q G 56), .inl (zg_J G, 9, .inr (.inl (S.2 56)))),
  ((zg_q G 57), .inl (zg_J G, 8, .inr (.inl (S.2 57)))),
  ((zg_q G 58), .inl (zg_J G, 40, .inr (.inl (S.2 58)))),
  ((zg_q G 59), .inl (zg_J G, 1, .inr (.inl (S.2 59))))]
theorem zw_g0 (G : zg_T) (S : zs_T) : (zw_L G S)[0]? = some ((zg_q G 0), .inr (9, [.ref (zg_q G 1), .ref (zg_q G 2), .ref (zg_q G 3), .ref (zg_q G 4), .ref (zg_q G 5), .ref (zg_q G 29), .int (S.1 0 6), .int (S.1 0 7)])) := rfl
theorem zw_f0_6 (G : zg_T) (S : zs_T) (v : Int32) : (zw_L G S).set 0 ((zg_q G 0), .inr (9, ([.ref (zg_q G 1), .ref (zg_q G 2), .ref (zg_q G 3), .ref (zg_q G 4), .ref (zg_q G 5), .ref (zg_q G 29), .int (S.1 0 6), .int (S.1 0 7)] : List Value).set 6 (.int v))) = zw_L G (zs_wi S 0 6 v) := rfl
theorem zw_f0_7 (G : zg_T) (S : zs_T) (v : Int32) : (zw_L G S).set 0 ((zg_q G 0), .inr (9, ([.ref (zg_q G 1), .ref (zg_q G 2), .ref (zg_q G 3), .ref (zg_q G 4), .ref (zg_q G 5), .ref (zg_q G 29), .int (S.1 0 6), .int (S.1 0 7)] : List Value).set 7 (.int v))) = zw_L G (zs_wi S 0 7 v) := rfl
theorem zw_g1 (G : zg_T) (S : zs_T) : (zw_L G S)[1]? = some ((zg_q G 1), .inl (zg_I G, 160, .inl (S.1 1))) := rfl
theorem zw_s1 (G : zg_T) (S : zs_T) (f : Nat → Int32) : (zw_L G S).set 1 ((zg_q G 1), .inl (zg_I G, 160, .inl f)) = zw_L G (zs_ri S 1 f) := rfl
theorem zw_g2 (G : zg_T) (S : zs_T) : (zw_L G S)[2]? = some ((zg_q G 2), .inl (zg_I G, 33, .inl (S.1 2))) := rfl
theorem zw_s2 (G : zg_T) (S : zs_T) (f : Nat → Int32) : (zw_L G S).set 2 ((zg_q G 2), .inl (zg_I G, 33, .inl f)) = zw_L G (zs_ri S 2 f) := rfl
theorem zw_g3 (G : zg_T) (S : zs_T) : (zw_L G S)[3]? = some ((zg_q G 3), .inl (zg_I G, 76, .inl (S.1 3))) := rfl
theorem zw_s3 (G : zg_T) (S : zs_T) (f : Nat → Int32) : (zw_L G S).set 3 ((zg_q G 3), .inl (zg_I G, 76, .inl f)) = zw_L G (zs_ri S 3 f) := rfl
theorem zw_g4 (G : zg_T) (S : zs_T) : (zw_L G S)[4]? = some ((zg_q G 4), .inl (zg_I G, 160, .inl (S.1 4))) := rfl
theorem zw_s4 (G : zg_T) (S : zs_T) (f : Nat → Int32) : (zw_L G S).set 4 ((zg_q G 4), .inl (zg_I G, 160, .inl f)) = zw_L G (zs_ri S 4 f) := rfl
theorem zw_g5 (G : zg_T) (S : zs_T) : (zw_L G S)[5]? = some ((zg_q G 5), .inr (1, [.ref (zg_q G 8), .ref (zg_q G 9), .ref (zg_q G 15), .ref (zg_q G 19), .ref (zg_q G 22), .ref (zg_q G 24), .ref (zg_q G 27), .ref (zg_q G 6), .ref (zg_q G 7), .int (S.1 5 9)])) := rfl
theorem zw_f5_9 (G : zg_T) (S : zs_T) (v : Int32) : (zw_L G S).set 5 ((zg_q G 5), .inr (1, ([.ref (zg_q G 8), .ref (zg_q G 9), .ref (zg_q G 15), .ref (zg_q G 19), .ref (zg_q G 22), .ref (zg_q G 24), .ref (zg_q G 27), .ref (zg_q G 6), .ref (zg_q G 7), .int (S.1 5 9)] : List Value).set 9 (.int v))) = zw_L G (zs_wi S 5 9 v) := rfl
theorem zw_g6 (G : zg_T) (S : zs_T) : (zw_L G S)[6]? = some ((zg_q G 6), .inl (zg_I G, 160, .inl (S.1 6))) := rfl
theorem zw_s6 (G : zg_T) (S : zs_T) (f : Nat → Int32) : (zw_L G S).set 6 ((zg_q G 6), .inl (zg_I G, 160, .inl f)) = zw_L G (zs_ri S 6 f) := rfl
theorem zw_g7 (G : zg_T) (S : zs_T) : (zw_L G S)[7]? = some ((zg_q G 7), .inl (zg_I G, 8, .inl (S.1 7))) := rfl
theorem zw_s7 (G : zg_T) (S : zs_T) (f : Nat → Int32) : (zw_L G S).set 7 ((zg_q G 7), .inl (zg_I G, 8, .inl f)) = zw_L G (zs_ri S 7 f) := rfl
theorem zw_g8 (G : zg_T) (S : zs_T) : (zw_L G S)[8]? = some ((zg_q G 8), .inr (3, [.int (S.1 8 0), .int (S.1 8 1), .int (S.1 8 2)])) := rfl
theorem zw_f8_0 (G : zg_T) (S : zs_T) (v : Int32) : (zw_L G S).set 8 ((zg_q G 8), .inr (3, ([.int (S.1 8 0), .int (S.1 8 1), .int (S.1 8 2)] : List Value).set 0 (.int v))) = zw_L G (zs_wi S 8 0 v) := rfl
theorem zw_f8_1 (G : zg_T) (S : zs_T) (v : Int32) : (zw_L G S).set 8 ((zg_q G 8), .inr (3, ([.int (S.1 8 0), .int (S.1 8 1), .int (S.1 8 2)] : List Value).set 1 (.int v))) = zw_L G (zs_wi S 8 1 v) := rfl
theorem zw_f8_2 (G : zg_T) (S : zs_T) (v : Int32) : (zw_L G S).set 8 ((zg_q G 8), .inr (3, ([.int (S.1 8 0), .int (S.1 8 1), .int (S.1 8 2)] : List Value).set 2 (.int v))) = zw_L G (zs_wi S 8 2 v) := rfl
theorem zw_g9 (G : zg_T) (S : zs_T) : (zw_L G S)[9]? = some ((zg_q G 9), .inr (5, [.ref (zg_q G 10), .ref (zg_q G 11), .ref (zg_q G 12), .ref (zg_q G 13), .ref (zg_q G 14)])) := rfl
theorem zw_g10 (G : zg_T) (S : zs_T) : (zw_L G S)[10]? = some ((zg_q G 10), .inl (zg_I G, 160, .inl (S.1 10))) := rfl
theorem zw_s10 (G : zg_T) (S : zs_T) (f : Nat → Int32) : (zw_L G S).set 10 ((zg_q G 10), .inl (zg_I G, 160, .inl f)) = zw_L G (zs_ri S 10 f) := rfl
theorem zw_g11 (G : zg_T) (S : zs_T) : (zw_L G S)[11]? = some ((zg_q G 11), .inl (zg_I G, 9, .inl (S.1 11))) := rfl
theorem zw_s11 (G : zg_T) (S : zs_T) (f : Nat → Int32) : (zw_L G S).set 11 ((zg_q G 11), .inl (zg_I G, 9, .inl f)) = zw_L G (zs_ri S 11 f) := rfl
theorem zw_g12 (G : zg_T) (S : zs_T) : (zw_L G S)[12]? = some ((zg_q G 12), .inl (zg_I G, 9, .inl (S.1 12))) := rfl
theorem zw_s12 (G : zg_T) (S : zs_T) (f : Nat → Int32) : (zw_L G S).set 12 ((zg_q G 12), .inl (zg_I G, 9, .inl f)) = zw_L G (zs_ri S 12 f) := rfl
theorem zw_g13 (G : zg_T) (S : zs_T) : (zw_L G S)[13]? = some ((zg_q G 13), .inl (zg_I G, 9, .inl (S.1 13))) := rfl
theorem zw_s13 (G : zg_T) (S : zs_T) (f : Nat → Int32) : (zw_L G S).set 13 ((zg_q G 13), .inl (zg_I G, 9, .inl f)) = zw_L G (zs_ri S 13 f) := rfl
theorem zw_g14 (G : zg_T) (S : zs_T) : (zw_L G S)[14]? = some ((zg_q G 14), .inl (zg_I G, 8, .inl (S.1 14))) := rfl
theorem zw_s14 (G : zg_T) (S : zs_T) (f : Nat → Int32) : (zw_L G S).set 14 ((zg_q G 14), .inl (zg_I G, 8, .inl f)) = zw_L G (zs_ri S 14 f) := rfl
theorem zw_g15 (G : zg_T) (S : zs_T) : (zw_L G S)[15]? = some ((zg_q G 15), .inr (2, [.ref (zg_q G 16), .ref (zg_q G 17), .ref (zg_q G 18)])) := rfl
theorem zw_g16 (G : zg_T) (S : zs_T) : (zw_L G S)[16]? = some ((zg_q G 16), .inl (zg_I G, 8, .inl (S.1 16))) := rfl
theorem zw_s16 (G : zg_T) (S : zs_T) (f : Nat → Int32) : (zw_L G S).set 16 ((zg_q G 16), .inl (zg_I G, 8, .inl f)) = zw_L G (zs_ri S 16 f) := rfl
theorem zw_g17 (G : zg_T) (S : zs_T) : (zw_L G S)[17]? = some ((zg_q G 17), .inl (zg_I G, 8, .inl (S.1 17))) := rfl
theorem zw_s17 (G : zg_T) (S : zs_T) (f : Nat → Int32) : (zw_L G S).set 17 ((zg_q G 17), .inl (zg_I G, 8, .inl f)) = zw_L G (zs_ri S 17 f) := rfl
theorem zw_g18 (G : zg_T) (S : zs_T) : (zw_L G S)[18]? = some ((zg_q G 18), .inl (zg_I G, 8, .inl (S.1 18))) := rfl
theorem zw_s18 (G : zg_T) (S : zs_T) (f : Nat → Int32) : (zw_L G S).set 18 ((zg_q G 18), .inl (zg_I G, 8, .inl f)) = zw_L G (zs_ri S 18 f) := rfl
theorem zw_g19 (G : zg_T) (S : zs_T) : (zw_L G S)[19]? = some ((zg_q G 19), .inr (4, [.ref (zg_q G 20), .ref (zg_q G 21)])) := rfl
theorem zw_g20 (G : zg_T) (S : zs_T) : (zw_L G S)[20]? = some ((zg_q G 20), .inl (zg_I G, 280, .inl (S.1 20))) := rfl
theorem zw_s20 (G : zg_T) (S : zs_T) (f : Nat → Int32) : (zw_L G S).set 20 ((zg_q G 20), .inl (zg_I G, 280, .inl f)) = zw_L G (zs_ri S 20 f) := rfl
theorem zw_g21 (G : zg_T) (S : zs_T) : (zw_L G S)[21]? = some ((zg_q G 21), .inl (zg_I G, 40, .inl (S.1 21))) := rfl
theorem zw_s21 (G : zg_T) (S : zs_T) (f : Nat → Int32) : (zw_L G S).set 21 ((zg_q G 21), .inl (zg_I G, 40, .inl f)) = zw_L G (zs_ri S 21 f) := rfl
theorem zw_g22 (G : zg_T) (S : zs_T) : (zw_L G S)[22]? = some ((zg_q G 22), .inr (7, [.ref (zg_q G 23), .int (S.1 22 1), .int (S.1 22 2)])) := rfl
theorem zw_f22_1 (G : zg_T) (S : zs_T) (v : Int32) : (zw_L G S).set 22 ((zg_q G 22), .inr (7, ([.ref (zg_q G 23), .int (S.1 22 1), .int (S.1 22 2)] : List Value).set 1 (.int v))) = zw_L G (zs_wi S 22 1 v) := rfl
theorem zw_f22_2 (G : zg_T) (S : zs_T) (v : Int32) : (zw_L G S).set 22 ((zg_q G 22), .inr (7, ([.ref (zg_q G 23), .int (S.1 22 1), .int (S.1 22 2)] : List Value).set 2 (.int v))) = zw_L G (zs_wi S 22 2 v) := rfl
theorem zw_g23 (G : zg_T) (S : zs_T) : (zw_L G S)[23]? = some ((zg_q G 23), .inl (zg_I G, 40, .inl (S.1 23))) := rfl
theorem zw_s23 (G : zg_T) (S : zs_T) (f : Nat → Int32) : (zw_L G S).set 23 ((zg_q G 23), .inl (zg_I G, 40, .inl f)) = zw_L G (zs_ri S 23 f) := rfl
theorem zw_g24 (G : zg_T) (S : zs_T) : (zw_L G S)[24]? = some ((zg_q G 24), .inr (8, [.ref (zg_q G 25), .ref (zg_q G 26), .int (S.1 24 2), .int (S.1 24 3)])) := rfl
theorem zw_f24_2 (G : zg_T) (S : zs_T) (v : Int32) : (zw_L G S).set 24 ((zg_q G 24), .inr (8, ([.ref (zg_q G 25), .ref (zg_q G 26), .int (S.1 24 2), .int (S.1 24 3)] : List Value).set 2 (.int v))) = zw_L G (zs_wi S 24 2 v) := rfl
theorem zw_f24_3 (G : zg_T) (S : zs_T) (v : Int32) : (zw_L G S).set 24 ((zg_q G 24), .inr (8, ([.ref (zg_q G 25), .ref (zg_q G 26), .int (S.1 24 2), .int (S.1 24 3)] : List Value).set 3 (.int v))) = zw_L G (zs_wi S 24 3 v) := rfl
theorem zw_g25 (G : zg_T) (S : zs_T) : (zw_L G S)[25]? = some ((zg_q G 25), .inl (zg_I G, 50, .inl (S.1 25))) := rfl
theorem zw_s25 (G : zg_T) (S : zs_T) (f : Nat → Int32) : (zw_L G S).set 25 ((zg_q G 25), .inl (zg_I G, 50, .inl f)) = zw_L G (zs_ri S 25 f) := rfl
theorem zw_g26 (G : zg_T) (S : zs_T) : (zw_L G S)[26]? = some ((zg_q G 26), .inl (zg_I G, 40, .inl (S.1 26))) := rfl
theorem zw_s26 (G : zg_T) (S : zs_T) (f : Nat → Int32) : (zw_L G S).set 26 ((zg_q G 26), .inl (zg_I G, 40, .inl f)) = zw_L G (zs_ri S 26 f) := rfl
theorem zw_g27 (G : zg_T) (S : zs_T) : (zw_L G S)[27]? = some ((zg_q G 27), .inr (6, [.ref (zg_q G 28), .int (S.1 27 1), .int (S.1 27 2)])) := rfl
theorem zw_f27_1 (G : zg_T) (S : zs_T) (v : Int32) : (zw_L G S).set 27 ((zg_q G 27), .inr (6, ([.ref (zg_q G 28), .int (S.1 27 1), .int (S.1 27 2)] : List Value).set 1 (.int v))) = zw_L G (zs_wi S 27 1 v) := rfl
theorem zw_f27_2 (G : zg_T) (S : zs_T) (v : Int32) : (zw_L G S).set 27 ((zg_q G 27), .inr (6, ([.ref (zg_q G 28), .int (S.1 27 1), .int (S.1 27 2)] : List Value).set 2 (.int v))) = zw_L G (zs_wi S 27 2 v) := rfl
theorem zw_g28 (G : zg_T) (S : zs_T) : (zw_L G S)[28]? = some ((zg_q G 28), .inl (zg_I G, 40, .inl (S.1 28))) := rfl
theorem zw_s28 (G : zg_T) (S : zs_T) (f : Nat → Int32) : (zw_L G S).set 28 ((zg_q G 28), .inl (zg_I G, 40, .inl f)) = zw_L G (zs_ri S 28 f) := rfl
theorem zw_g29 (G : zg_T) (S : zs_T) : (zw_L G S)[29]? = some ((zg_q G 29), .inr (0, [.ref (zg_q G 31), .ref (zg_q G 35), .ref (zg_q G 38), .ref (zg_q G 30), .int (S.1 29 4), .int (S.1 29 5), .int (S.1 29 6)])) := rfl
theorem zw_f29_4 (G : zg_T) (S : zs_T) (v : Int32) : (zw_L G S).set 29 ((zg_q G 29), .inr (0, ([.ref (zg_q G 31), .ref (zg_q G 35), .ref (zg_q G 38), .ref (zg_q G 30), .int (S.1 29 4), .int (S.1 29 5), .int (S.1 29 6)] : List Value).set 4 (.int v))) = zw_L G (zs_wi S 29 4 v) := rfl
theorem zw_f29_5 (G : zg_T) (S : zs_T) (v : Int32) : (zw_L G S).set 29 ((zg_q G 29), .inr (0, ([.ref (zg_q G 31), .ref (zg_q G 35), .ref (zg_q G 38), .ref (zg_q G 30), .int (S.1 29 4), .int (S.1 29 5), .int (S.1 29 6)] : List Value).set 5 (.int v))) = zw_L G (zs_wi S 29 5 v) := rfl
theorem zw_f29_6 (G : zg_T) (S : zs_T) (v : Int32) : (zw_L G S).set 29 ((zg_q G 29), .inr (0, ([.ref (zg_q G 31), .ref (zg_q G 35), .ref (zg_q G 38), .ref (zg_q G 30), .int (S.1 29 4), .int (S.1 29 5), .int (S.1 29 6)] : List Value).set 6 (.int v))) = zw_L G (zs_wi S 29 6 v) := rfl
theorem zw_g30 (G : zg_T) (S : zs_T) : (zw_L G S)[30]? = some ((zg_q G 30), .inl (zg_I G, 9, .inl (S.1 30))) := rfl
theorem zw_s30 (G : zg_T) (S : zs_T) (f : Nat → Int32) : (zw_L G S).set 30 ((zg_q G 30), .inl (zg_I G, 9, .inl f)) = zw_L G (zs_ri S 30 f) := rfl
theorem zw_g31 (G : zg_T) (S : zs_T) : (zw_L G S)[31]? = some ((zg_q G 31), .inr (2, [.ref (zg_q G 32), .ref (zg_q G 33), .ref (zg_q G 34)])) := rfl
theorem zw_g32 (G : zg_T) (S : zs_T) : (zw_L G S)[32]? = some ((zg_q G 32), .inl (zg_I G, 8, .inl (S.1 32))) := rfl
theorem zw_s32 (G : zg_T) (S : zs_T) (f : Nat → Int32) : (zw_L G S).set 32 ((zg_q G 32), .inl (zg_I G, 8, .inl f)) = zw_L G (zs_ri S 32 f) := rfl
theorem zw_g33 (G : zg_T) (S : zs_T) : (zw_L G S)[33]? = some ((zg_q G 33), .inl (zg_I G, 8, .inl (S.1 33))) := rfl
theorem zw_s33 (G : zg_T) (S : zs_T) (f : Nat → Int32) : (zw_L G S).set 33 ((zg_q G 33), .inl (zg_I G, 8, .inl f)) = zw_L G (zs_ri S 33 f) := rfl
theorem zw_g34 (G : zg_T) (S : zs_T) : (zw_L G S)[34]? = some ((zg_q G 34), .inl (zg_I G, 8, .inl (S.1 34))) := rfl
theorem zw_s34 (G : zg_T) (S : zs_T) (f : Nat → Int32) : (zw_L G S).set 34 ((zg_q G 34), .inl (zg_I G, 8, .inl f)) = zw_L G (zs_ri S 34 f) := rfl
theorem zw_g35 (G : zg_T) (S : zs_T) : (zw_L G S)[35]? = some ((zg_q G 35), .inr (4, [.ref (zg_q G 36), .ref (zg_q G 37)])) := rfl
theorem zw_g36 (G : zg_T) (S : zs_T) : (zw_L G S)[36]? = some ((zg_q G 36), .inl (zg_I G, 280, .inl (S.1 36))) := rfl
theorem zw_s36 (G : zg_T) (S : zs_T) (f : Nat → Int32) : (zw_L G S).set 36 ((zg_q G 36), .inl (zg_I G, 280, .inl f)) = zw_L G (zs_ri S 36 f) := rfl
theorem zw_g37 (G : zg_T) (S : zs_T) : (zw_L G S)[37]? = some ((zg_q G 37), .inl (zg_I G, 40, .inl (S.1 37))) := rfl
theorem zw_s37 (G : zg_T) (S : zs_T) (f : Nat → Int32) : (zw_L G S).set 37 ((zg_q G 37), .inl (zg_I G, 40, .inl f)) = zw_L G (zs_ri S 37 f) := rfl
theorem zw_g38 (G : zg_T) (S : zs_T) : (zw_L G S)[38]? = some ((zg_q G 38), .inr (6, [.ref (zg_q G 39), .int (S.1 38 1), .int (S.1 38 2)])) := rfl
theorem zw_f38_1 (G : zg_T) (S : zs_T) (v : Int32) : (zw_L G S).set 38 ((zg_q G 38), .inr (6, ([.ref (zg_q G 39), .int (S.1 38 1), .int (S.1 38 2)] : List Value).set 1 (.int v))) = zw_L G (zs_wi S 38 1 v) := rfl
theorem zw_f38_2 (G : zg_T) (S : zs_T) (v : Int32) : (zw_L G S).set 38 ((zg_q G 38), .inr (6, ([.ref (zg_q G 39), .int (S.1 38 1), .int (S.1 38 2)] : List Value).set 2 (.int v))) = zw_L G (zs_wi S 38 2 v) := rfl
theorem zw_g39 (G : zg_T) (S : zs_T) : (zw_L G S)[39]? = some ((zg_q G 39), .inl (zg_I G, 40, .inl (S.1 39))) := rfl
theorem zw_s39 (G : zg_T) (S : zs_T) (f : Nat → Int32) : (zw_L G S).set 39 ((zg_q G 39), .inl (zg_I G, 40, .inl f)) = zw_L G (zs_ri S 39 f) := rfl
theorem zw_g40 (G : zg_T) (S : zs_T) : (zw_L G S)[40]? = some ((zg_q G 40), .inr (10, [.int (S.1 40 0), .int (S.1 40 1), .ref (zg_q G 41), .int (S.1 40 3), .ref (zg_q G 42), .ref (zg_q G 43), .ref (zg_q G 44), .int (S.1 40 7), .int (S.1 40 8), .long (S.2 40 9), .long (S.2 40 10), .long (S.2 40 11), .ref (zg_q G 45), .ref (zg_q G 46), .ref (zg_q G 47), .ref (zg_q G 48), .int (S.1 40 16), .long (S.2 40 17), .ref (zg_q G 49), .ref (zg_q G 50), .ref (zg_q G 51), .ref (zg_q G 52), .ref (zg_q G 53), .ref (zg_q G 54), .ref (zg_q G 55), .ref (zg_q G 56), .ref (zg_q G 57), .ref (zg_q G 58), .int (S.1 40 28), .int (S.1 40 29)])) := rfl
theorem zw_f40_0 (G : zg_T) (S : zs_T) (v : Int32) : (zw_L G S).set 40 ((zg_q G 40), .inr (10, ([.int (S.1 40 0), .int (S.1 40 1), .ref (zg_q G 41), .int (S.1 40 3), .ref (zg_q G 42), .ref (zg_q G 43), .ref (zg_q G 44), .int (S.1 40 7), .int (S.1 40 8), .long (S.2 40 9), .long (S.2 40 10), .long (S.2 40 11), .ref (zg_q G 45), .ref (zg_q G 46), .ref (zg_q G 47), .ref (zg_q G 48), .int (S.1 40 16), .long (S.2 40 17), .ref (zg_q G 49), .ref (zg_q G 50), .ref (zg_q G 51), .ref (zg_q G 52), .ref (zg_q G 53), .ref (zg_q G 54), .ref (zg_q G 55), .ref (zg_q G 56), .ref (zg_q G 57), .ref (zg_q G 58), .int (S.1 40 28), .int (S.1 40 29)] : List Value).set 0 (.int v))) = zw_L G (zs_wi S 40 0 v) := rfl
theorem zw_f40_1 (G : zg_T) (S : zs_T) (v : Int32) : (zw_L G S).set 40 ((zg_q G 40), .inr (10, ([.int (S.1 40 0), .int (S.1 40 1), .ref (zg_q G 41), .int (S.1 40 3), .ref (zg_q G 42), .ref (zg_q G 43), .ref (zg_q G 44), .int (S.1 40 7), .int (S.1 40 8), .long (S.2 40 9), .long (S.2 40 10), .long (S.2 40 11), .ref (zg_q G 45), .ref (zg_q G 46), .ref (zg_q G 47), .ref (zg_q G 48), .int (S.1 40 16), .long (S.2 40 17), .ref (zg_q G 49), .ref (zg_q G 50), .ref (zg_q G 51), .ref (zg_q G 52), .ref (zg_q G 53), .ref (zg_q G 54), .ref (zg_q G 55), .ref (zg_q G 56), .ref (zg_q G 57), .ref (zg_q G 58), .int (S.1 40 28), .int (S.1 40 29)] : List Value).set 1 (.int v))) = zw_L G (zs_wi S 40 1 v) := rfl
theorem zw_f40_3 (G : zg_T) (S : zs_T) (v : Int32) : (zw_L G S).set 40 ((zg_q G 40), .inr (10, ([.int (S.1 40 0), .int (S.1 40 1), .ref (zg_q G 41), .int (S.1 40 3), .ref (zg_q G 42), .ref (zg_q G 43), .ref (zg_q G 44), .int (S.1 40 7), .int (S.1 40 8), .long (S.2 40 9), .long (S.2 40 10), .long (S.2 40 11), .ref (zg_q G 45), .ref (zg_q G 46), .ref (zg_q G 47), .ref (zg_q G 48), .int (S.1 40 16), .long (S.2 40 17), .ref (zg_q G 49), .ref (zg_q G 50), .ref (zg_q G 51), .ref (zg_q G 52), .ref (zg_q G 53), .ref (zg_q G 54), .ref (zg_q G 55), .ref (zg_q G 56), .ref (zg_q G 57), .ref (zg_q G 58), .int (S.1 40 28), .int (S.1 40 29)] : List Value).set 3 (.int v))) = zw_L G (zs_wi S 40 3 v) := rfl
theorem zw_f40_7 (G : zg_T) (S : zs_T) (v : Int32) : (zw_L G S).set 40 ((zg_q G 40), .inr (10, ([.int (S.1 40 0), .int (S.1 40 1), .ref (zg_q G 41), .int (S.1 40 3), .ref (zg_q G 42), .ref (zg_q G 43), .ref (zg_q G 44), .int (S.1 40 7), .int (S.1 40 8), .long (S.2 40 9), .long (S.2 40 10), .long (S.2 40 11), .ref (zg_q G 45), .ref (zg_q G 46), .ref (zg_q G 47), .ref (zg_q G 48), .int (S.1 40 16), .long (S.2 40 17), .ref (zg_q G 49), .ref (zg_q G 50), .ref (zg_q G 51), .ref (zg_q G 52), .ref (zg_q G 53), .ref (zg_q G 54), .ref (zg_q G 55), .ref (zg_q G 56), .ref (zg_q G 57), .ref (zg_q G 58), .int (S.1 40 28), .int (S.1 40 29)] : List Value).set 7 (.int v))) = zw_L G (zs_wi S 40 7 v) := rfl
theorem zw_f40_8 (G : zg_T) (S : zs_T) (v : Int32) : (zw_L G S).set 40 ((zg_q G 40), .inr (10, ([.int (S.1 40 0), .int (S.1 40 1), .ref (zg_q G 41), .int (S.1 40 3), .ref (zg_q G 42), .ref (zg_q G 43), .ref (zg_q G 44), .int (S.1 40 7), .int (S.1 40 8), .long (S.2 40 9), .long (S.2 40 10), .long (S.2 40 11), .ref (zg_q G 45), .ref (zg_q G 46), .ref (zg_q G 47), .ref (zg_q G 48), .int (S.1 40 16), .long (S.2 40 17), .ref (zg_q G 49), .ref (zg_q G 50), .ref (zg_q G 51), .ref (zg_q G 52), .ref (zg_q G 53), .ref (zg_q G 54), .ref (zg_q G 55), .ref (zg_q G 56), .ref (zg_q G 57), .ref (zg_q G 58), .int (S.1 40 28), .int (S.1 40 29)] : List Value).set 8 (.int v))) = zw_L G (zs_wi S 40 8 v) := rfl
theorem zw_f40_9 (G : zg_T) (S : zs_T) (v : Int64) : (zw_L G S).set 40 ((zg_q G 40), .inr (10, ([.int (S.1 40 0), .int (S.1 40 1), .ref (zg_q G 41), .int (S.1 40 3), .ref (zg_q G 42), .ref (zg_q G 43), .ref (zg_q G 44), .int (S.1 40 7), .int (S.1 40 8), .long (S.2 40 9), .long (S.2 40 10), .long (S.2 40 11), .ref (zg_q G 45), .ref (zg_q G 46), .ref (zg_q G 47), .ref (zg_q G 48), .int (S.1 40 16), .long (S.2 40 17), .ref (zg_q G 49), .ref (zg_q G 50), .ref (zg_q G 51), .ref (zg_q G 52), .ref (zg_q G 53), .ref (zg_q G 54), .ref (zg_q G 55), .ref (zg_q G 56), .ref (zg_q G 57), .ref (zg_q G 58), .int (S.1 40 28), .int (S.1 40 29)] : List Value).set 9 (.long v))) = zw_L G (zs_wl S 40 9 v) := rfl
theorem zw_f40_10 (G : zg_T) (S : zs_T) (v : Int64) : (zw_L G S).set 40 ((zg_q G 40), .inr (10, ([.int (S.1 40 0), .int (S.1 40 1), .ref (zg_q G 41), .int (S.1 40 3), .ref (zg_q G 42), .ref (zg_q G 43), .ref (zg_q G 44), .int (S.1 40 7), .int (S.1 40 8), .long (S.2 40 9), .long (S.2 40 10), .long (S.2 40 11), .ref (zg_q G 45), .ref (zg_q G 46), .ref (zg_q G 47), .ref (zg_q G 48), .int (S.1 40 16), .long (S.2 40 17), .ref (zg_q G 49), .ref (zg_q G 50), .ref (zg_q G 51), .ref (zg_q G 52), .ref (zg_q G 53), .ref (zg_q G 54), .ref (zg_q G 55), .ref (zg_q G 56), .ref (zg_q G 57), .ref (zg_q G 58), .int (S.1 40 28), .int (S.1 40 29)] : List Value).set 10 (.long v))) = zw_L G (zs_wl S 40 10 v) := rfl
theorem zw_f40_11 (G : zg_T) (S : zs_T) (v : Int64) : (zw_L G S).set 40 ((zg_q G 40), .inr (10, ([.int (S.1 40 0), .int (S.1 40 1), .ref (zg_q G 41), .int (S.1 40 3), .ref (zg_q G 42), .ref (zg_q G 43), .ref (zg_q G 44), .int (S.1 40 7), .int (S.1 40 8), .long (S.2 40 9), .long (S.2 40 10), .long (S.2 40 11), .ref (zg_q G 45), .ref (zg_q G 46), .ref (zg_q G 47), .ref (zg_q G 48), .int (S.1 40 16), .long (S.2 40 17), .ref (zg_q G 49), .ref (zg_q G 50), .ref (zg_q G 51), .ref (zg_q G 52), .ref (zg_q G 53), .ref (zg_q G 54), .ref (zg_q G 55), .ref (zg_q G 56), .ref (zg_q G 57), .ref (zg_q G 58), .int (S.1 40 28), .int (S.1 40 29)] : List Value).set 11 (.long v))) = zw_L G (zs_wl S 40 11 v) := rfl
theorem zw_f40_16 (G : zg_T) (S : zs_T) (v : Int32) : (zw_L G S).set 40 ((zg_q G 40), .inr (10, ([.int (S.1 40 0), .int (S.1 40 1), .ref (zg_q G 41), .int (S.1 40 3), .ref (zg_q G 42), .ref (zg_q G 43), .ref (zg_q G 44), .int (S.1 40 7), .int (S.1 40 8), .long (S.2 40 9), .long (S.2 40 10), .long (S.2 40 11), .ref (zg_q G 45), .ref (zg_q G 46), .ref (zg_q G 47), .ref (zg_q G 48), .int (S.1 40 16), .long (S.2 40 17), .ref (zg_q G 49), .ref (zg_q G 50), .ref (zg_q G 51), .ref (zg_q G 52), .ref (zg_q G 53), .ref (zg_q G 54), .ref (zg_q G 55), .ref (zg_q G 56), .ref (zg_q G 57), .ref (zg_q G 58), .int (S.1 40 28), .int (S.1 40 29)] : List Value).set 16 (.int v))) = zw_L G (zs_wi S 40 16 v) := rfl
theorem zw_f40_17 (G : zg_T) (S : zs_T) (v : Int64) : (zw_L G S).set 40 ((zg_q G 40), .inr (10, ([.int (S.1 40 0), .int (S.1 40 1), .ref (zg_q G 41), .int (S.1 40 3), .ref (zg_q G 42), .ref (zg_q G 43), .ref (zg_q G 44), .int (S.1 40 7), .int (S.1 40 8), .long (S.2 40 9), .long (S.2 40 10), .long (S.2 40 11), .ref (zg_q G 45), .ref (zg_q G 46), .ref (zg_q G 47), .ref (zg_q G 48), .int (S.1 40 16), .long (S.2 40 17), .ref (zg_q G 49), .ref (zg_q G 50), .ref (zg_q G 51), .ref (zg_q G 52), .ref (zg_q G 53), .ref (zg_q G 54), .ref (zg_q G 55), .ref (zg_q G 56), .ref (zg_q G 57), .ref (zg_q G 58), .int (S.1 40 28), .int (S.1 40 29)] : List Value).set 17 (.long v))) = zw_L G (zs_wl S 40 17 v) := rfl
theorem zw_f40_28 (G : zg_T) (S : zs_T) (v : Int32) : (zw_L G S).set 40 ((zg_q G 40), .inr (10, ([.int (S.1 40 0), .int (S.1 40 1), .ref (zg_q G 41), .int (S.1 40 3), .ref (zg_q G 42), .ref (zg_q G 43), .ref (zg_q G 44), .int (S.1 40 7), .int (S.1 40 8), .long (S.2 40 9), .long (S.2 40 10), .long (S.2 40 11), .ref (zg_q G 45), .ref (zg_q G 46), .ref (zg_q G 47), .ref (zg_q G 48), .int (S.1 40 16), .long (S.2 40 17), .ref (zg_q G 49), .ref (zg_q G 50), .ref (zg_q G 51), .ref (zg_q G 52), .ref (zg_q G 53), .ref (zg_q G 54), .ref (zg_q G 55), .ref (zg_q G 56), .ref (zg_q G 57), .ref (zg_q G 58), .int (S.1 40 28), .int (S.1 40 29)] : List Value).set 28 (.int v))) = zw_L G (zs_wi S 40 28 v) := rfl
theorem zw_f40_29 (G : zg_T) (S : zs_T) (v : Int32) : (zw_L G S).set 40 ((zg_q G 40), .inr (10, ([.int (S.1 40 0), .int (S.1 40 1), .ref (zg_q G 41), .int (S.1 40 3), .ref (zg_q G 42), .ref (zg_q G 43), .ref (zg_q G 44), .int (S.1 40 7), .int (S.1 40 8), .long (S.2 40 9), .long (S.2 40 10), .long (S.2 40 11), .ref (zg_q G 45), .ref (zg_q G 46), .ref (zg_q G 47), .ref (zg_q G 48), .int (S.1 40 16), .long (S.2 40 17), .ref (zg_q G 49), .ref (zg_q G 50), .ref (zg_q G 51), .ref (zg_q G 52), .ref (zg_q G 53), .ref (zg_q G 54), .ref (zg_q G 55), .ref (zg_q G 56), .ref (zg_q G 57), .ref (zg_q G 58), .int (S.1 40 28), .int (S.1 40 29)] : List Value).set 29 (.int v))) = zw_L G (zs_wi S 40 29 v) := rfl
theorem zw_g41 (G : zg_T) (S : zs_T) : (zw_L G S)[41]? = some ((zg_q G 41), .inl (zg_J G, 160, .inr (.inl (S.2 41)))) := rfl
theorem zw_s41 (G : zg_T) (S : zs_T) (f : Nat → Int64) : (zw_L G S).set 41 ((zg_q G 41), .inl (zg_J G, 160, .inr (.inl f))) = zw_L G (zs_rl S 41 f) := rfl
theorem zw_g42 (G : zg_T) (S : zs_T) : (zw_L G S)[42]? = some ((zg_q G 42), .inl (zg_I G, 33, .inl (S.1 42))) := rfl
theorem zw_s42 (G : zg_T) (S : zs_T) (f : Nat → Int32) : (zw_L G S).set 42 ((zg_q G 42), .inl (zg_I G, 33, .inl f)) = zw_L G (zs_ri S 42 f) := rfl
theorem zw_g43 (G : zg_T) (S : zs_T) : (zw_L G S)[43]? = some ((zg_q G 43), .inl (zg_I G, 76, .inl (S.1 43))) := rfl
theorem zw_s43 (G : zg_T) (S : zs_T) (f : Nat → Int32) : (zw_L G S).set 43 ((zg_q G 43), .inl (zg_I G, 76, .inl f)) = zw_L G (zs_ri S 43 f) := rfl
theorem zw_g44 (G : zg_T) (S : zs_T) : (zw_L G S)[44]? = some ((zg_q G 44), .inl (zg_I G, 160, .inl (S.1 44))) := rfl
theorem zw_s44 (G : zg_T) (S : zs_T) (f : Nat → Int32) : (zw_L G S).set 44 ((zg_q G 44), .inl (zg_I G, 160, .inl f)) = zw_L G (zs_ri S 44 f) := rfl
theorem zw_g45 (G : zg_T) (S : zs_T) : (zw_L G S)[45]? = some ((zg_q G 45), .inl (zg_J G, 16, .inr (.inl (S.2 45)))) := rfl
theorem zw_s45 (G : zg_T) (S : zs_T) (f : Nat → Int64) : (zw_L G S).set 45 ((zg_q G 45), .inl (zg_J G, 16, .inr (.inl f))) = zw_L G (zs_rl S 45 f) := rfl
theorem zw_g46 (G : zg_T) (S : zs_T) : (zw_L G S)[46]? = some ((zg_q G 46), .inl (zg_J G, 9, .inr (.inl (S.2 46)))) := rfl
theorem zw_s46 (G : zg_T) (S : zs_T) (f : Nat → Int64) : (zw_L G S).set 46 ((zg_q G 46), .inl (zg_J G, 9, .inr (.inl f))) = zw_L G (zs_rl S 46 f) := rfl
theorem zw_g47 (G : zg_T) (S : zs_T) : (zw_L G S)[47]? = some ((zg_q G 47), .inl (zg_J G, 9, .inr (.inl (S.2 47)))) := rfl
theorem zw_s47 (G : zg_T) (S : zs_T) (f : Nat → Int64) : (zw_L G S).set 47 ((zg_q G 47), .inl (zg_J G, 9, .inr (.inl f))) = zw_L G (zs_rl S 47 f) := rfl
theorem zw_g48 (G : zg_T) (S : zs_T) : (zw_L G S)[48]? = some ((zg_q G 48), .inl (zg_J G, 560, .inr (.inl (S.2 48)))) := rfl
theorem zw_s48 (G : zg_T) (S : zs_T) (f : Nat → Int64) : (zw_L G S).set 48 ((zg_q G 48), .inl (zg_J G, 560, .inr (.inl f))) = zw_L G (zs_rl S 48 f) := rfl
theorem zw_g49 (G : zg_T) (S : zs_T) : (zw_L G S)[49]? = some ((zg_q G 49), .inl (zg_J G, 160, .inr (.inl (S.2 49)))) := rfl
theorem zw_s49 (G : zg_T) (S : zs_T) (f : Nat → Int64) : (zw_L G S).set 49 ((zg_q G 49), .inl (zg_J G, 160, .inr (.inl f))) = zw_L G (zs_rl S 49 f) := rfl
theorem zw_g50 (G : zg_T) (S : zs_T) : (zw_L G S)[50]? = some ((zg_q G 50), .inl (zg_J G, 160, .inr (.inl (S.2 50)))) := rfl
theorem zw_s50 (G : zg_T) (S : zs_T) (f : Nat → Int64) : (zw_L G S).set 50 ((zg_q G 50), .inl (zg_J G, 160, .inr (.inl f))) = zw_L G (zs_rl S 50 f) := rfl
theorem zw_g51 (G : zg_T) (S : zs_T) : (zw_L G S)[51]? = some ((zg_q G 51), .inl (zg_J G, 40, .inr (.inl (S.2 51)))) := rfl
theorem zw_s51 (G : zg_T) (S : zs_T) (f : Nat → Int64) : (zw_L G S).set 51 ((zg_q G 51), .inl (zg_J G, 40, .inr (.inl f))) = zw_L G (zs_rl S 51 f) := rfl
theorem zw_g52 (G : zg_T) (S : zs_T) : (zw_L G S)[52]? = some ((zg_q G 52), .inl (zg_J G, 40, .inr (.inl (S.2 52)))) := rfl
theorem zw_s52 (G : zg_T) (S : zs_T) (f : Nat → Int64) : (zw_L G S).set 52 ((zg_q G 52), .inl (zg_J G, 40, .inr (.inl f))) = zw_L G (zs_rl S 52 f) := rfl
theorem zw_g53 (G : zg_T) (S : zs_T) : (zw_L G S)[53]? = some ((zg_q G 53), .inl (zg_J G, 9, .inr (.inl (S.2 53)))) := rfl
theorem zw_s53 (G : zg_T) (S : zs_T) (f : Nat → Int64) : (zw_L G S).set 53 ((zg_q G 53), .inl (zg_J G, 9, .inr (.inl f))) = zw_L G (zs_rl S 53 f) := rfl
theorem zw_g54 (G : zg_T) (S : zs_T) : (zw_L G S)[54]? = some ((zg_q G 54), .inl (zg_J G, 10, .inr (.inl (S.2 54)))) := rfl
theorem zw_s54 (G : zg_T) (S : zs_T) (f : Nat → Int64) : (zw_L G S).set 54 ((zg_q G 54), .inl (zg_J G, 10, .inr (.inl f))) = zw_L G (zs_rl S 54 f) := rfl
theorem zw_g55 (G : zg_T) (S : zs_T) : (zw_L G S)[55]? = some ((zg_q G 55), .inl (zg_J G, 10, .inr (.inl (S.2 55)))) := rfl
theorem zw_s55 (G : zg_T) (S : zs_T) (f : Nat → Int64) : (zw_L G S).set 55 ((zg_q G 55), .inl (zg_J G, 10, .inr (.inl f))) = zw_L G (zs_rl S 55 f) := rfl
theorem zw_g56 (G : zg_T) (S : zs_T) : (zw_L G S)[56]? = some ((zg_q G 56), .inl (zg_J G, 9, .inr (.inl (S.2 56)))) := rfl
theorem zw_s56 (G : zg_T) (S : zs_T) (f : Nat → Int64) : (zw_L G S).set 56 ((zg_q G 56), .inl (zg_J G, 9, .inr (.inl f))) = zw_L G (zs_rl S 56 f) := rfl
theorem zw_g57 (G : zg_T) (S : zs_T) : (zw_L G S)[57]? = some ((zg_q G 57), .inl (zg_J G, 8, .inr (.inl (S.2 57)))) := rfl
theorem zw_s57 (G : zg_T) (S : zs_T) (f : Nat → Int64) : (zw_L G S).set 57 ((zg_q G 57), .inl (zg_J G, 8, .inr (.inl f))) = zw_L G (zs_rl S 57 f) := rfl
theorem zw_g58 (G : zg_T) (S : zs_T) : (zw_L G S)[58]? = some ((zg_q G 58), .inl (zg_J G, 40, .inr (.inl (S.2 58)))) := rfl
theorem zw_s58 (G : zg_T) (S : zs_T) (f : Nat → Int64) : (zw_L G S).set 58 ((zg_q G 58), .inl (zg_J G, 40, .inr (.inl f))) = zw_L G (zs_rl S 58 f) := rfl
theorem zw_g59 (G : zg_T) (S : zs_T) : (zw_L G S)[59]? = some ((zg_q G 59), .inl (zg_J G, 1, .inr (.inl (S.2 59)))) := rfl
theorem zw_s59 (G : zg_T) (S : zs_T) (f : Nat → Int64) : (zw_L G S).set 59 ((zg_q G 59), .inl (zg_J G, 1, .inr (.inl f))) = zw_L G (zs_rl S 59 f) := rfl
def zt_C : Nat → String := fun j => match j with
  | 0 => "VoiceFrames"
  | 1 => "VoiceFrames"
  | 2 => "VoiceFrames"
  | 3 => "VoiceFrames"
  | 4 => "VoiceFrames$Prediction"
  | 5 => "VoiceFrames$Prediction"
  | 6 => "VoiceFrames$Filter"
  | 7 => "VoiceFrames$Filter"
  | 8 => "VoiceFrames$Past"
  | 9 => "VoiceFrames$Search"
  | 10 => "VoiceFrames$Thinning"
  | 11 => "VoiceFrames$Pulses"
  | _ => "VoiceFrames$Pulses"
def zt_n : Nat → String := fun j => match j with
  | 0 => "FILTER_BITS"
  | 1 => "PART_BITS"
  | 2 => "LEAST"
  | 3 => "B"
  | 4 => "A"
  | 5 => "MOST"
  | 6 => "C"
  | 7 => "ENDS"
  | 8 => "G"
  | 9 => "D"
  | 10 => "H"
  | 11 => "R"
  | _ => "F"
def zt_N : Nat → Nat := fun j => match j with
  | 0 => 8
  | 1 => 4
  | 2 => 8
  | 3 => 8
  | 4 => 8
  | 5 => 8
  | 6 => 8
  | 7 => 4
  | 8 => 4
  | 9 => 3
  | 10 => 11
  | 11 => 8
  | _ => 8
def zt_v0 : Nat → Int32 := fun i => ([6, 6, 5, 5, 4, 4, 3, 3] : List Int32).getD i 0
def zt_v1 : Nat → Int32 := fun i => ([7, 2, 2, 6] : List Int32).getD i 0
def zt_v2 : Nat → Int32 := fun i => ([(-32), (-32), (-16), (-16), (-8), (-8), (-4), (-4)] : List Int32).getD i 0
def zt_v3 : Nat → Int32 := fun i => ([0, 0, 2048, (-2560), 94, (-1792), (-341), (-1144)] : List Int32).getD i 0
def zt_v4 : Nat → Int32 := fun i => ([20480, 20480, 20480, 20480, 13964, 15360, 8534, 9036] : List Int32).getD i 0
def zt_v5 : Nat → Int32 := fun i => ([31, 31, 15, 15, 7, 7, 3, 3] : List Int32).getD i 0
def zt_v6 : Nat → Int32 := fun i => ([13107, 13107, 13107, 13107, 19223, 17476, 31454, 29708] : List Int32).getD i 0
def zt_v7 : Nat → Int32 := fun i => ([13, 27, 40, 160] : List Int32).getD i 0
def zt_v8 : Nat → Int32 := fun i => ([3277, 11469, 21299, 32767] : List Int32).getD i 0
def zt_v9 : Nat → Int32 := fun i => ([6554, 16384, 26214] : List Int32).getD i 0
def zt_v10 : Nat → Int32 := fun i => ([(-134), (-374), 0, 2054, 5741, 8192, 5741, 2054, 0, (-374), (-134)] : List Int32).getD i 0
def zt_v11 : Nat → Int32 := fun i => ([29128, 26215, 23832, 21846, 20165, 18725, 17476, 16384] : List Int32).getD i 0
def zt_v12 : Nat → Int32 := fun i => ([18431, 20479, 22527, 24575, 26623, 28671, 30719, 32767] : List Int32).getD i 0
def zt_v : Nat → Nat → Int32 := fun j => match j with
  | 0 => zt_v0
  | 1 => zt_v1
  | 2 => zt_v2
  | 3 => zt_v3
  | 4 => zt_v4
  | 5 => zt_v5
  | 6 => zt_v6
  | 7 => zt_v7
  | 8 => zt_v8
  | 9 => zt_v9
  | 10 => zt_v10
  | 11 => zt_v11
  | _ => zt_v12
def zn_F : List (String × Nat × String × String × String) := [
  ("VoiceFrames", 108, "VoiceFrames$Filter", "g", "[I"),
  ("VoiceFrames$Encoder", 114, "VoiceFrames$Filter", "\x72", "[I"),
  ("VoiceFrames$Decoder", 100, "VoiceFrames$Filter", "\x72", "[I"),
  ("VoiceFrames$Search", 29, "VoiceFrames$Past", "cells", "[I"),
  ("VoiceFrames$Decoder", 90, "VoiceFrames$Past", "cells", "[I"),
  ("VoiceFrames", 118, "VoiceFrames$Past", "cells", "[I"),
  ("VoiceFrames$Encoder", 140, "VoiceFrames$Past", "w", "[I"),
  ("VoiceFrames$Encoder", 130, "VoiceFrames$Search", "back", "I"),
  ("VoiceFrames$Encoder", 133, "VoiceFrames$Search", "gain", "I"),
  ("VoiceFrames$Encoder", 156, "VoiceFrames$Thinning", "x", "[I"),
  ("VoiceFrames$Encoder", 147, "VoiceFrames$Thinning", "grid", "I"),
  ("VoiceFrames$Encoder", 150, "VoiceFrames$Thinning", "height", "I"),
  ("VoiceFrames$Decoder", 77, "VoiceFrames$Pulses", "row", "[I"),
  ("VoiceFrames$Encoder", 163, "VoiceFrames$Pulses", "row", "[I"),
  ("VoiceFrames", 130, "VoiceFrames$Encoder", "inlet", "LVoiceFrames$Inlet;"),
  ("VoiceFrames", 104, "VoiceFrames$Encoder", "filter", "LVoiceFrames$Filter;"),
  ("VoiceFrames", 114, "VoiceFrames$Encoder", "past", "LVoiceFrames$Past;"),
  ("VoiceFrames", 124, "VoiceFrames$Encoder", "u", "[I"),
  ("VoiceFrames", 65, "VoiceFrames$Encoder", "frames", "I"),
  ("VoiceFrames", 113, "VoiceFrames$Decoder", "filter", "LVoiceFrames$Filter;"),
  ("VoiceFrames", 123, "VoiceFrames$Decoder", "past", "LVoiceFrames$Past;"),
  ("VoiceFrames", 127, "VoiceFrames$Decoder", "v", "[I"),
  ("VoiceFrames", 139, "VoiceFrames$Decoder", "back", "I"),
  ("VoiceFrames", 142, "VoiceFrames$Decoder", "echo", "I"),
  ("VoiceFrames", 83, "VoiceFrames$Decoder", "frames", "I"),
  ("VoiceFrames$Filter", 21, "VoiceFrames", "LEAST", "[I"),
  ("VoiceFrames$Filter", 33, "VoiceFrames", "B", "[I"),
  ("VoiceFrames$Decoder", 83, "VoiceFrames$Filter", "ENDS", "[I"),
  ("VoiceFrames$Prediction", 86, "VoiceFrames", "B", "[I"),
  ("VoiceFrames$Prediction", 89, "VoiceFrames", "LEAST", "[I"),
  ("VoiceFrames$Encoder", 103, "VoiceFrames$Filter", "ENDS", "[I")]
def zk_S : List (Nat × String) := [(45, "a sample is -32768 .. 32767"), (52, "there are 160 samples"), (55, "n is 0 .. 160"), (57, "there would be more than 160 samples"), (59, "there are not 160 samples"), (68, "i is 0 .. 75"), (70, "n is 0 .. 8"), (72, "there would be more than 33 bytes"), (84, "i is 0 .. 159"), (86, "what is 0 .. 2"), (102, "there is no such cell of the state"), (145, "what is 0 .. 3")]
/-- what never changes while the law runs: tables of names, static tables, what a throw needs -/
def zg_E (G : zg_T) (U : State) : Prop :=
  va_K (zg_D G) vwCl [(zg_I G, .int), (zg_J G, .long)] U ∧ zg_b G ≤ U.heap.size ∧
  (∀ x ∈ zn_F, va_Nw (.fieldLinkNest x.1 x.2.1 x.2.2.1 x.2.2.2.1 x.2.2.2.2 "VoiceFrames") U) ∧ va_Nw (.methodLinkNest RX1 11 yX3_init "VoiceFrames") U ∧
  (∀ j, j < 13 → va_Z (zt_C j) (zt_n j) "[I" (.ref (zg_t G j)) (zg_A G) U U.heap ∧ va_T .int (zg_t G j) (zt_N j) (fun i => .int (zt_v j i)) (zg_A G) U U.heap) ∧
  vx_Zq Bundle.tN "UNASSIGNED_STACK" Bundle.steD (zg_A G) U U.heap ∧ vx_Zq Bundle.tN "SUPPRESSED_SENTINEL" Bundle.listD (zg_A G) U U.heap ∧
  (∀ x ∈ zk_S, ∃ a, vk_R "VoiceFrames" x.1 x.2 a U)
def zg_P (G : zg_T) (S : zs_T) (U : State) : Prop := zg_E G U ∧ va_P (zg_D G) vwCl (zw_L G S) U.heap ∧ va_D (zg_A G) (zw_L G S)
def zg_W (G : zg_T) (S : zs_T) (s : State) (H : Heap) (locs : List Loc) : Prop := va_P (zg_D G) vwCl (zw_L G S) H ∧ va_D (zg_A G) (zw_L G S) ∧ va_S (zg_A G) s.heap H locs
theorem zg_E.same {G : zg_T} {u U : State} (hv : u.vm = U.vm) (hh : u.heap = U.heap) (h : zg_E G u) : zg_E G U := by
  obtain ⟨h1, h2, h3, h4, h5, h6, h7, h8⟩ := h
  have al : u.vm.Alike U.vm := hv ▸ Vm.Alike.refl u.vm
  refine ⟨va_K.moved al h1, hh ▸ h2, fun x hx => (h3 x hx).same rfl hv, h4.same rfl hv, fun j hj => ⟨hh ▸ va_Z.moved al (h5 j hj).1, hh ▸ va_T.moved al (h5 j hj).2⟩, hh ▸ vx_Zq.moved al h6, hh ▸ vx_Zq.moved al h7, fun x hx => ?_⟩
  obtain ⟨a, ha⟩ := h8 x hx
  exact ⟨a, vk_R.same hv.symm ha⟩
theorem zg_E.step {G : zg_T} {s U : State} {H : Heap} {locs : List Loc} (h : zg_E G s) (hW : s.WarmedH U.vm) (hS : va_S (zg_A G) s.heap H locs) (hU : U.heap = H) : zg_E G U := by
  subst hU
  obtain ⟨h1, h2, h3, h4, h5, h6, h7, h8⟩ := h
  have al := hW.alike
  refine ⟨va_K.moved al h1, Nat.le_trans h2 hS.1, fun x hx => (h3 x hx).warmF hW, h4.warmM hW, fun j hj => ⟨va_Z.moved al ((h5 j hj).1.kept hS.2.1), va_T.moved al ((h5 j hj).2.kept hS.2.1)⟩, vx_Zq.moved al (h6.kept hS.2.1), vx_Zq.moved al (h7.kept hS.2.1), fun x hx => ?_⟩
  obtain ⟨a, ha⟩ := h8 x hx
  exact ⟨a, ha.warm hW⟩
theorem zg_P.same {G : zg_T} {S : zs_T} {u U : State} (hv : u.vm = U.vm) (hh : u.heap = U.heap) (h : zg_P G S u) : zg_P G S U := ⟨h.1.same hv hh, hh ▸ h.2.1, h.2.2⟩
theorem zg_P.to {G : zg_T} {S : zs_T} {s U : State} {H : Heap} {locs : List Loc} (h : zg_E G s) (w : zg_W G S s H locs) (hU : U.heap = H) (hW : s.WarmedH U.vm) : zg_P G S U := ⟨h.step hW w.2.2 hU, hU ▸ w.1, w.2.1⟩
theorem zg_blind {G : zg_T} {S : zs_T} {av : List Value} : FrameBlind (va_Pc av (zg_P G S)) := fun _ _ _ _ h => ⟨h.1, h.2.same rfl rfl⟩
/-! words: all that are good among the tables', for every method -/
def zt_G : List Cond := lw_tbl.filter goodWord
theorem zt_m {w : Cond} (i : Nat) (h : tables_1[i]? = some w) (hg : goodWord w = true) : w ∈ zt_G := List.mem_filter.mpr ⟨List.mem_append_right _ (List.mem_of_getElem? h), hg⟩
theorem zt_s {w : Cond} (i : Nat) (h : (k2_sels lw_privs)[i]? = some w) (hg : goodWord w = true) : w ∈ zt_G := List.mem_filter.mpr ⟨List.mem_append_left _ (List.mem_of_getElem? h), hg⟩
theorem zt_good {w : Cond} (h : w ∈ zt_G) : goodWord w = true := (List.mem_filter.mp h).2
theorem zt_in {y : MethodName} {b : ByteArray} {n : Nat} {r : Option FieldType} (h : Cond.code y b n r ∈ zt_G) : GoodIn zt_G (Cond.code y b n r :: zt_G) := fun w hw => by
  have hm : w ∈ zt_G := (List.mem_cons.mp hw).elim (fun e => e ▸ h) id
  exact ⟨hm, good_of_word (zt_good hm)⟩
/-! the pure functions' combinators -/
def zc_lt {α β : Type} (x : α) (f : α → β) : β := f x
def zc_gi {α : Type} (i : Int32) (n : Nat) (x : Option α) : Option α := if i < 0 ∨ n ≤ i.toNatClampNeg then none else x
theorem zc_gi_x {α : Type} {i : Int32} {n : Nat} {x : Option α} {r : α} (h : zc_gi i n x = some r) : vp_in i n ∧ x = some r := by
  unfold zc_gi at h
  by_cases c : i < 0 ∨ n ≤ i.toNatClampNeg
  · rw [if_pos c] at h; cases h
  · rw [if_neg c] at h; exact ⟨c, h⟩
def zc_nz {α : Type} (y : Int32) (x : Option α) : Option α := if y = 0 then none else x
theorem zc_nz_x {α : Type} {y : Int32} {x : Option α} {r : α} (h : zc_nz y x = some r) : ¬ y = 0 ∧ x = some r := by
  unfold zc_nz at h
  by_cases c : y = 0
  · rw [if_pos c] at h; cases h
  · rw [if_neg c] at h; exact ⟨c, h⟩
def zc_nl {α : Type} (y : Int64) (x : Option α) : Option α := if y = 0 then none else x
theorem zc_nl_x {α : Type} {y : Int64} {x : Option α} {r : α} (h : zc_nl y x = some r) : ¬ y = 0 ∧ x = some r := by
  unfold zc_nl at h
  by_cases c : y = 0
  · rw [if_pos c] at h; cases h
  · rw [if_neg c] at h; exact ⟨c, h⟩
def zc_b1 {A O : Type} (x : Option A) (f : A → Option O) : Option O := x.bind f
def zc_b2 {A B O : Type} (x : Option (A × B)) (f : A → B → Option O) : Option O := x.bind (fun a => f a.1 a.2)
def zc_b3 {A B C O : Type} (x : Option (A × B × C)) (f : A → B → C → Option O) : Option O := x.bind (fun a => f a.1 a.2.1 a.2.2)
def zc_b4 {A B C D O : Type} (x : Option (A × B × C × D)) (f : A → B → C → D → Option O) : Option O := x.bind (fun a => f a.1 a.2.1 a.2.2.1 a.2.2.2)
def zc_b5 {A B C D E O : Type} (x : Option (A × B × C × D × E)) (f : A → B → C → D → E → Option O) : Option O := x.bind (fun a => f a.1 a.2.1 a.2.2.1 a.2.2.2.1 a.2.2.2.2)
theorem zc_b1_x {A O : Type} {x : Option A} {f : A → Option O} {r : O} (h : zc_b1 x f = some r) : ∃ a, x = some a ∧ f a = some r := by
  cases x with
  | none => cases h
  | some a => exact ⟨a, rfl, h⟩
theorem zc_b2_x {A B O : Type} {x : Option (A × B)} {f : A → B → Option O} {r : O} (h : zc_b2 x f = some r) : ∃ a b, x = some (a, b) ∧ f a b = some r := by
  cases x with
  | none => cases h
  | some a => exact ⟨a.1, a.2, rfl, h⟩
theorem zc_b3_x {A B C O : Type} {x : Option (A × B × C)} {f : A → B → C → Option O} {r : O} (h : zc_b3 x f = some r) : ∃ a b c, x = some (a, b, c) ∧ f a b c = some r := by
  cases x with
  | none => cases h
  | some a => exact ⟨a.1, a.2.1, a.2.2, rfl, h⟩
theorem zc_b4_x {A B C D O : Type} {x : Option (A × B × C × D)} {f : A → B → C → D → Option O} {r : O} (h : zc_b4 x f = some r) : ∃ a b c d, x = some (a, b, c, d) ∧ f a b c d = some r := by
  cases x with
  | none => cases h
  | some a => exact ⟨a.1, a.2.1, a.2.2.1, a.2.2.2, rfl, h⟩
theorem zc_b5_x {A B C D E O : Type} {x : Option (A × B × C × D × E)} {f : A → B → C → D → E → Option O} {r : O} (h : zc_b5 x f = some r) : ∃ a b c d e, x = some (a, b, c, d, e) ∧ f a b c d e = some r := by
  cases x with
  | none => cases h
  | some a => exact ⟨a.1, a.2.1, a.2.2.1, a.2.2.2.1, a.2.2.2.2, rfl, h⟩
def zl_1 {A O : Type} (b : (A → Option O) → A → Option O) : Nat → A → Option O
  | 0 => fun _ => none
  | n + 1 => b (zl_1 b n)
def zl_2 {A B O : Type} (b : (A → B → Option O) → A → B → Option O) : Nat → A → B → Option O
  | 0 => fun _ _ => none
  | n + 1 => b (zl_2 b n)
def zl_3 {A B C O : Type} (b : (A → B → C → Option O) → A → B → C → Option O) : Nat → A → B → C → Option O
  | 0 => fun _ _ _ => none
  | n + 1 => b (zl_3 b n)
def zl_4 {A B C D O : Type} (b : (A → B → C → D → Option O) → A → B → C → D → Option O) : Nat → A → B → C → D → Option O
  | 0 => fun _ _ _ _ => none
  | n + 1 => b (zl_4 b n)
def zl_5 {A B C D E O : Type} (b : (A → B → C → D → E → Option O) → A → B → C → D → E → Option O) : Nat → A → B → C → D → E → Option O
  | 0 => fun _ _ _ _ _ => none
  | n + 1 => b (zl_5 b n)
/-! inside a method -/
def zx_C (p : Program) (s : State) (m : MethodId) (args : Array Value) (meth : Method) (c : Code) (G : zg_T) (own : String) (cc : ByteArray) (nL : Nat) : Prop :=
  p.tables.exec = Jvm.exec ∧ c.code = cc ∧ c.maxLocals = nL ∧ s.vm.findClass own = some m.cls ∧ (∀ w ∈ zt_G, w.before args s = true) ∧ meth.locks = false ∧ zg_E G s
def zg_Q (G : zg_T) (v : Option Value) (S : zs_T) : Array Value → State → Outcome → State → Prop := fun _ st oc t => oc = .returned v ∧ zg_P G S t ∧ va_F (zg_A G) st t
theorem zx_met {l : Launch} {y : MethodName} {cc : ByteArray} {nL : Nat} {ret : Option FieldType} {rm : Room} {vs : List Value} {G : zg_T} {S : zs_T} {Qc : Array Value → State → Outcome → State → Prop} {mc ms : Nat} {free : Addr → Prop}
    (hy : plainName y.cls = true) (hvs : (lg_sl vs).length ≤ nL) {lv : List (Nat × Value)} (hlv : lv_args 0 vs = lv)
    (body : ∀ p e s m below meth c, zx_C p s m vs.toArray meth c G y.cls cc nL → meth.sig.returnType = ret → zg_W G S s s.heap [] → ∀ ls, lv_has ls nL lv →
      W p l e rm s m vs.toArray below meth c s.heap [] 0 0 (MQ below Qc vs.toArray s mc ms free) (F0 m 0 ls [])) :
    Met l y (Cond.code y cc nL ret :: zt_G) rm (va_Pc vs (zg_P G S)) Qc mc ms free := by
  refine Met.ofW (cc := cc) (maxL := nL) (ret := ret) hy rfl ?_
  intro p e s m args below meth c s₁ B hml hv
  obtain ⟨rfl, hE, hP, hD⟩ := hv
  have hts := atoms_spec (ws := Cond.code y cc nL ret :: zt_G) B.pre
  have hl := lv_entry vs (n := nL) hvs
  rw [hlv] at hl
  rw [lg_entry_eq]
  exact body p e s m below meth c ⟨B.exec, B.bytes, hml, findClass_of_methodNamed B.named, fun w h => hts w (List.mem_cons_of_mem _ h), B.notSynchronized, hE⟩ B.returns ⟨hP, hD, va_S.rf⟩ _ hl
section ZR
variable {p : Program} {l : Launch} {e : Env} {R : Room} {s : State} {m : MethodId} {args : Array Value} {below : List Frame} {meth : Method} {c : Code} {H : Heap} {locs : List Loc} {cells slots : Nat} {Q : State → Prop}
variable {cc : ByteArray} {pc nL : Nat} {ls : Array Slot} {rest : List Value} {G : zg_T} {S : zs_T} {own : String} {α β : Type}
theorem zr_lti {x : Int32} {f : Int32 → β} {o : β} (h : zc_lt x f = o) (k : ∀ v : Int32, f v = o → W p l e R s m args below meth c H locs cells slots Q (F0 m pc ls (.int v :: rest))) : W p l e R s m args below meth c H locs cells slots Q (F0 m pc ls (.int x :: rest)) := k x h
theorem zr_ltl {x : Int64} {f : Int64 → β} {o : β} (h : zc_lt x f = o) (k : ∀ v : Int64, f v = o → W p l e R s m args below meth c H locs cells slots Q (F0 m pc ls (.long v :: rest))) : W p l e R s m args below meth c H locs cells slots Q (F0 m pc ls (.long x :: rest)) := k x h
theorem zr_if_eq (C : zx_C p s m args meth c G own cc nL) {x : Int32} {off : Int} {tgt : Nat} {A B : α} {o : α} [Decidable (x = 0)] (hdg : decode cc pc = .ok (.ifCond .eq off, 3)) (ht : (pc : Int) + off = (tgt : Int)) (h : (if x = 0 then A else B) = o)
    (kt : A = o → W p l e R s m args below meth c H locs cells slots Q (F0 m tgt ls rest)) (kf : B = o → W p l e R s m args below meth c H locs cells slots Q (F0 m (pc + 3) ls rest)) : W p l e R s m args below meth c H locs cells slots Q (F0 m pc ls (.int x :: rest)) :=
  lv_if_eq C.1 C.2.1 hdg ht (fun q => kt ((if_pos q).symm.trans h)) (fun q => kf ((if_neg q).symm.trans h))
theorem zr_if_ne (C : zx_C p s m args meth c G own cc nL) {x : Int32} {off : Int} {tgt : Nat} {A B : α} {o : α} [Decidable (x = 0)] (hdg : decode cc pc = .ok (.ifCond .ne off, 3)) (ht : (pc : Int) + off = (tgt : Int)) (h : (if x = 0 then B else A) = o)
    (kt : A = o → W p l e R s m args below meth c H locs cells slots Q (F0 m tgt ls rest)) (kf : B = o → W p l e R s m args below meth c H locs cells slots Q (F0 m (pc + 3) ls rest)) : W p l e R s m args below meth c H locs cells slots Q (F0 m pc ls (.int x :: rest)) :=
  lv_if_ne C.1 C.2.1 hdg ht (fun q => kt ((if_neg q).symm.trans h)) (fun q => kf ((if_pos q).symm.trans h))
theorem zr_if_lt (C : zx_C p s m args meth c G own cc nL) {x : Int32} {off : Int} {tgt : Nat} {A B : α} {o : α} [Decidable (x < 0)] (hdg : decode cc pc = .ok (.ifCond .lt off, 3)) (ht : (pc : Int) + off = (tgt : Int)) (h : (if x < 0 then A else B) = o)
    (kt : A = o → W p l e R s m args below meth c H locs cells slots Q (F0 m tgt ls rest)) (kf : B = o → W p l e R s m args below meth c H locs cells slots Q (F0 m (pc + 3) ls rest)) : W p l e R s m args below meth c H locs cells slots Q (F0 m pc ls (.int x :: rest)) :=
  lv_if_lt C.1 C.2.1 hdg ht (fun q => kt ((if_pos q).symm.trans h)) (fun q => kf ((if_neg q).symm.trans h))
theorem zr_if_ge (C : zx_C p s m args meth c G own cc nL) {x : Int32} {off : Int} {tgt : Nat} {A B : α} {o : α} [Decidable (0 ≤ x)] (hdg : decode cc pc = .ok (.ifCond .ge off, 3)) (ht : (pc : Int) + off = (tgt : Int)) (h : (if 0 ≤ x then A else B) = o)
    (kt : A = o → W p l e R s m args below meth c H locs cells slots Q (F0 m tgt ls rest)) (kf : B = o → W p l e R s m args below meth c H locs cells slots Q (F0 m (pc + 3) ls rest)) : W p l e R s m args below meth c H locs cells slots Q (F0 m pc ls (.int x :: rest)) :=
  lv_if_ge C.1 C.2.1 hdg ht (fun q => kt ((if_pos q).symm.trans h)) (fun q => kf ((if_neg q).symm.trans h))
theorem zr_if_gt (C : zx_C p s m args meth c G own cc nL) {x : Int32} {off : Int} {tgt : Nat} {A B : α} {o : α} [Decidable (0 < x)] (hdg : decode cc pc = .ok (.ifCond .gt off, 3)) (ht : (pc : Int) + off = (tgt : Int)) (h : (if 0 < x then A else B) = o)
    (kt : A = o → W p l e R s m args below meth c H locs cells slots Q (F0 m tgt ls rest)) (kf : B = o → W p l e R s m args below meth c H locs cells slots Q (F0 m (pc + 3) ls rest)) : W p l e R s m args below meth c H locs cells slots Q (F0 m pc ls (.int x :: rest)) :=
  lv_if_gt C.1 C.2.1 hdg ht (fun q => kt ((if_pos q).symm.trans h)) (fun q => kf ((if_neg q).symm.trans h))
theorem zr_if_le (C : zx_C p s m args meth c G own cc nL) {x : Int32} {off : Int} {tgt : Nat} {A B : α} {o : α} [Decidable (x ≤ 0)] (hdg : decode cc pc = .ok (.ifCond .le off, 3)) (ht : (pc : Int) + off = (tgt : Int)) (h : (if x ≤ 0 then A else B) = o)
    (kt : A = o → W p l e R s m args below meth c H locs cells slots Q (F0 m tgt ls rest)) (kf : B = o → W p l e R s m args below meth c H locs cells slots Q (F0 m (pc + 3) ls rest)) : W p l e R s m args below meth c H locs cells slots Q (F0 m pc ls (.int x :: rest)) :=
  lv_if_le C.1 C.2.1 hdg ht (fun q => kt ((if_pos q).symm.trans h)) (fun q => kf ((if_neg q).symm.trans h))
theorem zr_ic_eq (C : zx_C p s m args meth c G own cc nL) {x y : Int32} {off : Int} {tgt : Nat} {A B : α} {o : α} [Decidable (x = y)] (hdg : decode cc pc = .ok (.if_icmp .eq off, 3)) (ht : (pc : Int) + off = (tgt : Int)) (h : (if x = y then A else B) = o)
    (kt : A = o → W p l e R s m args below meth c H locs cells slots Q (F0 m tgt ls rest)) (kf : B = o → W p l e R s m args below meth c H locs cells slots Q (F0 m (pc + 3) ls rest)) : W p l e R s m args below meth c H locs cells slots Q (F0 m pc ls (.int y :: .int x :: rest)) :=
  lv_icmp_eq C.1 C.2.1 hdg ht (fun q => kt ((if_pos q).symm.trans h)) (fun q => kf ((if_neg q).symm.trans h))
theorem zr_ic_ne (C : zx_C p s m args meth c G own cc nL) {x y : Int32} {off : Int} {tgt : Nat} {A B : α} {o : α} [Decidable (x = y)] (hdg : decode cc pc = .ok (.if_icmp .ne off, 3)) (ht : (pc : Int) + off = (tgt : Int)) (h : (if x = y then B else A) = o)
    (kt : A = o → W p l e R s m args below meth c H locs cells slots Q (F0 m tgt ls rest)) (kf : B = o → W p l e R s m args below meth c H locs cells slots Q (F0 m (pc + 3) ls rest)) : W p l e R s m args below meth c H locs cells slots Q (F0 m pc ls (.int y :: .int x :: rest)) :=
  lv_icmp_ne C.1 C.2.1 hdg ht (fun q => kt ((if_neg q).symm.trans h)) (fun q => kf ((if_pos q).symm.trans h))
theorem zr_ic_lt (C : zx_C p s m args meth c G own cc nL) {x y : Int32} {off : Int} {tgt : Nat} {A B : α} {o : α} [Decidable (x < y)] (hdg : decode cc pc = .ok (.if_icmp .lt off, 3)) (ht : (pc : Int) + off = (tgt : Int)) (h : (if x < y then A else B) = o)
    (kt : A = o → W p l e R s m args below meth c H locs cells slots Q (F0 m tgt ls rest)) (kf : B = o → W p l e R s m args below meth c H locs cells slots Q (F0 m (pc + 3) ls rest)) : W p l e R s m args below meth c H locs cells slots Q (F0 m pc ls (.int y :: .int x :: rest)) :=
  lv_icmp_lt C.1 C.2.1 hdg ht (fun q => kt ((if_pos q).symm.trans h)) (fun q => kf ((if_neg q).symm.trans h))
theorem zr_ic_ge (C : zx_C p s m args meth c G own cc nL) {x y : Int32} {off : Int} {tgt : Nat} {A B : α} {o : α} [Decidable (y ≤ x)] (hdg : decode cc pc = .ok (.if_icmp .ge off, 3)) (ht : (pc : Int) + off = (tgt : Int)) (h : (if y ≤ x then A else B) = o)
    (kt : A = o → W p l e R s m args below meth c H locs cells slots Q (F0 m tgt ls rest)) (kf : B = o → W p l e R s m args below meth c H locs cells slots Q (F0 m (pc + 3) ls rest)) : W p l e R s m args below meth c H locs cells slots Q (F0 m pc ls (.int y :: .int x :: rest)) :=
  lv_icmp_ge C.1 C.2.1 hdg ht (fun q => kt ((if_pos q).symm.trans h)) (fun q => kf ((if_neg q).symm.trans h))
theorem zr_ic_gt (C : zx_C p s m args meth c G own cc nL) {x y : Int32} {off : Int} {tgt : Nat} {A B : α} {o : α} [Decidable (y < x)] (hdg : decode cc pc = .ok (.if_icmp .gt off, 3)) (ht : (pc : Int) + off = (tgt : Int)) (h : (if y < x then A else B) = o)
    (kt : A = o → W p l e R s m args below meth c H locs cells slots Q (F0 m tgt ls rest)) (kf : B = o → W p l e R s m args below meth c H locs cells slots Q (F0 m (pc + 3) ls rest)) : W p l e R s m args below meth c H locs cells slots Q (F0 m pc ls (.int y :: .int x :: rest)) :=
  lv_icmp_gt C.1 C.2.1 hdg ht (fun q => kt ((if_pos q).symm.trans h)) (fun q => kf ((if_neg q).symm.trans h))
theorem zr_ic_le (C : zx_C p s m args meth c G own cc nL) {x y : Int32} {off : Int} {tgt : Nat} {A B : α} {o : α} [Decidable (x ≤ y)] (hdg : decode cc pc = .ok (.if_icmp .le off, 3)) (ht : (pc : Int) + off = (tgt : Int)) (h : (if x ≤ y then A else B) = o)
    (kt : A = o → W p l e R s m args below meth c H locs cells slots Q (F0 m tgt ls rest)) (kf : B = o → W p l e R s m args below meth c H locs cells slots Q (F0 m (pc + 3) ls rest)) : W p l e R s m args below meth c H locs cells slots Q (F0 m pc ls (.int y :: .int x :: rest)) :=
  lv_icmp_le C.1 C.2.1 hdg ht (fun q => kt ((if_pos q).symm.trans h)) (fun q => kf ((if_neg q).symm.trans h))
/-! a compare of two longs and its branch, in one -/
theorem zr_lc_eq (C : zx_C p s m args meth c G own cc nL) {x y : Int64} {off : Int} {tgt : Nat} {A B : α} {o : α} [Decidable (x = y)] (hd0 : decode cc pc = .ok (.lcmp, 1)) (hdg : decode cc (pc + 1) = .ok (.ifCond .eq off, 3)) (ht : ((pc + 1 : Nat) : Int) + off = (tgt : Int)) (h : (if x = y then A else B) = o)
    (kt : A = o → W p l e R s m args below meth c H locs cells slots Q (F0 m tgt ls rest)) (kf : B = o → W p l e R s m args below meth c H locs cells slots Q (F0 m (pc + 4) ls rest)) : W p l e R s m args below meth c H locs cells slots Q (F0 m pc ls (.long y :: .long x :: rest)) :=
  W.lcmp C.1 C.2.1 hd0 (lv_if_eq C.1 C.2.1 hdg ht (fun q => kt ((if_pos ((lg_cmp_eq x y).mp q)).symm.trans h)) (fun q => kf ((if_neg (fun z => q ((lg_cmp_eq x y).mpr z))).symm.trans h)))
theorem zr_lc_ne (C : zx_C p s m args meth c G own cc nL) {x y : Int64} {off : Int} {tgt : Nat} {A B : α} {o : α} [Decidable (x = y)] (hd0 : decode cc pc = .ok (.lcmp, 1)) (hdg : decode cc (pc + 1) = .ok (.ifCond .ne off, 3)) (ht : ((pc + 1 : Nat) : Int) + off = (tgt : Int)) (h : (if x = y then B else A) = o)
    (kt : A = o → W p l e R s m args below meth c H locs cells slots Q (F0 m tgt ls rest)) (kf : B = o → W p l e R s m args below meth c H locs cells slots Q (F0 m (pc + 4) ls rest)) : W p l e R s m args below meth c H locs cells slots Q (F0 m pc ls (.long y :: .long x :: rest)) :=
  W.lcmp C.1 C.2.1 hd0 (lv_if_ne C.1 C.2.1 hdg ht (fun q => kt ((if_neg (fun z => q ((lg_cmp_eq x y).mpr z))).symm.trans h)) (fun q => kf ((if_pos ((lg_cmp_eq x y).mp q)).symm.trans h)))
theorem zr_lc_lt (C : zx_C p s m args meth c G own cc nL) {x y : Int64} {off : Int} {tgt : Nat} {A B : α} {o : α} [Decidable (x < y)] (hd0 : decode cc pc = .ok (.lcmp, 1)) (hdg : decode cc (pc + 1) = .ok (.ifCond .lt off, 3)) (ht : ((pc + 1 : Nat) : Int) + off = (tgt : Int)) (h : (if x < y then A else B) = o)
    (kt : A = o → W p l e R s m args below meth c H locs cells slots Q (F0 m tgt ls rest)) (kf : B = o → W p l e R s m args below meth c H locs cells slots Q (F0 m (pc + 4) ls rest)) : W p l e R s m args below meth c H locs cells slots Q (F0 m pc ls (.long y :: .long x :: rest)) :=
  W.lcmp C.1 C.2.1 hd0 (lv_if_lt C.1 C.2.1 hdg ht (fun q => kt ((if_pos ((lg_cmp_lt x y).mp q)).symm.trans h)) (fun q => kf ((if_neg (fun z => q ((lg_cmp_lt x y).mpr z))).symm.trans h)))
theorem zr_lc_ge (C : zx_C p s m args meth c G own cc nL) {x y : Int64} {off : Int} {tgt : Nat} {A B : α} {o : α} [Decidable (y ≤ x)] (hd0 : decode cc pc = .ok (.lcmp, 1)) (hdg : decode cc (pc + 1) = .ok (.ifCond .ge off, 3)) (ht : ((pc + 1 : Nat) : Int) + off = (tgt : Int)) (h : (if y ≤ x then A else B) = o)
    (kt : A = o → W p l e R s m args below meth c H locs cells slots Q (F0 m tgt ls rest)) (kf : B = o → W p l e R s m args below meth c H locs cells slots Q (F0 m (pc + 4) ls rest)) : W p l e R s m args below meth c H locs cells slots Q (F0 m pc ls (.long y :: .long x :: rest)) :=
  W.lcmp C.1 C.2.1 hd0 (lv_if_ge C.1 C.2.1 hdg ht (fun q => kt ((if_pos ((lg_cmp_ge x y).mp q)).symm.trans h)) (fun q => kf ((if_neg (fun z => q ((lg_cmp_ge x y).mpr z))).symm.trans h)))
theorem zr_lc_gt (C : zx_C p s m args meth c G own cc nL) {x y : Int64} {off : Int} {tgt : Nat} {A B : α} {o : α} [Decidable (y < x)] (hd0 : decode cc pc = .ok (.lcmp, 1)) (hdg : decode cc (pc + 1) = .ok (.ifCond .gt off, 3)) (ht : ((pc + 1 : Nat) : Int) + off = (tgt : Int)) (h : (if y < x then A else B) = o)
    (kt : A = o → W p l e R s m args below meth c H locs cells slots Q (F0 m tgt ls rest)) (kf : B = o → W p l e R s m args below meth c H locs cells slots Q (F0 m (pc + 4) ls rest)) : W p l e R s m args below meth c H locs cells slots Q (F0 m pc ls (.long y :: .long x :: rest)) :=
  W.lcmp C.1 C.2.1 hd0 (lv_if_gt C.1 C.2.1 hdg ht (fun q => kt ((if_pos ((lg_cmp_gt x y).mp q)).symm.trans h)) (fun q => kf ((if_neg (fun z => q ((lg_cmp_gt x y).mpr z))).symm.trans h)))
theorem zr_lc_le (C : zx_C p s m args meth c G own cc nL) {x y : Int64} {off : Int} {tgt : Nat} {A B : α} {o : α} [Decidable (x ≤ y)] (hd0 : decode cc pc = .ok (.lcmp, 1)) (hdg : decode cc (pc + 1) = .ok (.ifCond .le off, 3)) (ht : ((pc + 1 : Nat) : Int) + off = (tgt : Int)) (h : (if x ≤ y then A else B) = o)
    (kt : A = o → W p l e R s m args below meth c H locs cells slots Q (F0 m tgt ls rest)) (kf : B = o → W p l e R s m args below meth c H locs cells slots Q (F0 m (pc + 4) ls rest)) : W p l e R s m args below meth c H locs cells slots Q (F0 m pc ls (.long y :: .long x :: rest)) :=
  W.lcmp C.1 C.2.1 hd0 (lv_if_le C.1 C.2.1 hdg ht (fun q => kt ((if_pos ((lg_cmp_le x y).mp q)).symm.trans h)) (fun q => kf ((if_neg (fun z => q ((lg_cmp_le x y).mpr z))).symm.trans h)))
/-! heap -/
theorem zr_iald (C : zx_C p s m args meth c G own cc nL) (w : zg_W G S s H locs) (k : Nat) {n : Nat} (hk : (zw_L G S)[k]? = some (zg_q G k, .inl (zg_I G, n, .inl (S.1 k)))) {i : Int32} (hdg : decode cc pc = .ok (.iaload, 1)) {x : Option α} {o : α} (h : zc_gi i n x = some o)
    (kk : x = some o → W p l e R s m args below meth c H locs cells slots Q (F0 m (pc + 1) ls (.int (S.1 k i.toNatClampNeg) :: rest))) : W p l e R s m args below meth c H locs cells slots Q (F0 m pc ls (.int i :: .ref (zg_q G k) :: rest)) :=
  va_iald C.1 C.2.1 C.2.2.2.2.2.2.1 w.1 k 0 hk rfl (zc_gi_x h).1 hdg (kk (zc_gi_x h).2)
theorem zr_lald (C : zx_C p s m args meth c G own cc nL) (w : zg_W G S s H locs) (k : Nat) {n : Nat} (hk : (zw_L G S)[k]? = some (zg_q G k, .inl (zg_J G, n, .inr (.inl (S.2 k))))) {i : Int32} (hdg : decode cc pc = .ok (.laload, 1)) {x : Option α} {o : α} (h : zc_gi i n x = some o)
    (kk : x = some o → W p l e R s m args below meth c H locs cells slots Q (F0 m (pc + 1) ls (.long (S.2 k i.toNatClampNeg) :: rest))) : W p l e R s m args below meth c H locs cells slots Q (F0 m pc ls (.int i :: .ref (zg_q G k) :: rest)) :=
  va_lald C.1 C.2.1 C.2.2.2.2.2.2.1 w.1 k 1 hk rfl (zc_gi_x h).1 hdg (kk (zc_gi_x h).2)
theorem zr_iast (C : zx_C p s m args meth c G own cc nL) (w : zg_W G S s H locs) (k : Nat) {n : Nat} (hk : (zw_L G S)[k]? = some (zg_q G k, .inl (zg_I G, n, .inl (S.1 k)))) (hs : ∀ f, (zw_L G S).set k (zg_q G k, .inl (zg_I G, n, .inl f)) = zw_L G (zs_ri S k f)) {i v : Int32} (hdg : decode cc pc = .ok (.iastore, 1)) {f : zs_T → Option α} {o : α} (h : zc_gi i n (zc_lt (zs_wi S k i.toNatClampNeg v) f) = some o)
    (kk : ∀ (S1 : zs_T) (H1 : Heap) (locs1 : List Loc), zg_W G S1 s H1 locs1 → f S1 = some o → W p l e R s m args below meth c H1 locs1 cells slots Q (F0 m (pc + 1) ls rest)) : W p l e R s m args below meth c H locs cells slots Q (F0 m pc ls (.int v :: .int i :: .ref (zg_q G k) :: rest)) :=
  va_iast C.1 C.2.1 C.2.2.2.2.2.2.1 w.1 w.2.1 w.2.2 k 0 hk rfl (zc_gi_x h).1 hdg (fun H1 locs1 a b d => kk _ H1 locs1 ⟨by rw [← hs]; exact a, by rw [← hs]; exact b, d⟩ (zc_gi_x h).2)
theorem zr_last (C : zx_C p s m args meth c G own cc nL) (w : zg_W G S s H locs) (k : Nat) {n : Nat} (hk : (zw_L G S)[k]? = some (zg_q G k, .inl (zg_J G, n, .inr (.inl (S.2 k))))) (hs : ∀ f, (zw_L G S).set k (zg_q G k, .inl (zg_J G, n, .inr (.inl f))) = zw_L G (zs_rl S k f)) {i : Int32} {v : Int64} (hdg : decode cc pc = .ok (.lastore, 1)) {f : zs_T → Option α} {o : α} (h : zc_gi i n (zc_lt (zs_wl S k i.toNatClampNeg v) f) = some o)
    (kk : ∀ (S1 : zs_T) (H1 : Heap) (locs1 : List Loc), zg_W G S1 s H1 locs1 → f S1 = some o → W p l e R s m args below meth c H1 locs1 cells slots Q (F0 m (pc + 1) ls rest)) : W p l e R s m args below meth c H locs cells slots Q (F0 m pc ls (.long v :: .int i :: .ref (zg_q G k) :: rest)) :=
  va_last C.1 C.2.1 C.2.2.2.2.2.2.1 w.1 w.2.1 w.2.2 k 1 hk rfl (zc_gi_x h).1 hdg (fun H1 locs1 a b d => kk _ H1 locs1 ⟨by rw [← hs]; exact a, by rw [← hs]; exact b, d⟩ (zc_gi_x h).2)
theorem zr_alen (C : zx_C p s m args meth c G own cc nL) (w : zg_W G S s H locs) (k : Nat) {n : Nat} (hk : (zw_L G S)[k]? = some (zg_q G k, .inl (zg_I G, n, .inl (S.1 k)))) {v : Int32} (hv : Int32.ofNat n = v) (hdg : decode cc pc = .ok (.arraylength, 1))
    (kk : W p l e R s m args below meth c H locs cells slots Q (F0 m (pc + 1) ls (.int v :: rest))) : W p l e R s m args below meth c H locs cells slots Q (F0 m pc ls (.ref (zg_q G k) :: rest)) :=
  va_alen C.1 C.2.1 C.2.2.2.2.2.2.1 w.1 k 0 hk rfl hv hdg kk
theorem zr_get (C : zx_C p s m args meth c G own cc nL) (w : zg_W G S s H locs) (k : Nat) {ci N index : Nat} {fs : List Value} {C0 : String} {T : u_T} (hin : ∀ w ∈ u_ws C0 T N, w ∈ zt_G) (hk : (zw_L G S)[k]? = some (zg_q G k, .inr (ci, fs))) (hc : vwCl[ci]? = some (C0, T, N)) (j : Nat) (hj : j < N) (hlink : Cond.fieldLink own index (T j).1 (T j).2.1 (T j).2.2.1 ∈ zt_G) {v : Value} (hv : fs[j]? = some v) (hdg : decode cc pc = .ok (.getfield index, 3))
    (kk : W p l e R s m args below meth c H locs cells slots Q (F0 m (pc + 3) ls (v :: rest))) : W p l e R s m args below meth c H locs cells slots Q (F0 m pc ls (.ref (zg_q G k) :: rest)) :=
  va_get C.1 C.2.1 C.2.2.2.2.1 hin C.2.2.2.1 C.2.2.2.2.2.2.1 w.1 k hk hc j hj (C.2.2.2.2.1 _ hlink) (fun _ h => h) hv hdg kk
theorem zr_getN (C : zx_C p s m args meth c G own cc nL) (w : zg_W G S s H locs) (k : Nat) {ci N index : Nat} {fs : List Value} {C0 : String} {T : u_T} (hin : ∀ w ∈ u_ws C0 T N, w ∈ zt_G) (hk : (zw_L G S)[k]? = some (zg_q G k, .inr (ci, fs))) (hc : vwCl[ci]? = some (C0, T, N)) (j : Nat) (hj : j < N) (hlink : (own, index, (T j).1, (T j).2.1, (T j).2.2.1) ∈ zn_F) {v : Value} (hv : fs[j]? = some v) (hdg : decode cc pc = .ok (.getfield index, 3))
    (kk : W p l e R s m args below meth c H locs cells slots Q (F0 m (pc + 3) ls (v :: rest))) : W p l e R s m args below meth c H locs cells slots Q (F0 m pc ls (.ref (zg_q G k) :: rest)) :=
  va_getN C.1 C.2.1 C.2.2.2.2.1 hin C.2.2.2.1 C.2.2.2.2.2.2.1 w.1 k hk hc j hj ((C.2.2.2.2.2.2.2.2.1 _ hlink).use rfl) (fun _ h => h) hv hdg kk
theorem zr_put (C : zx_C p s m args meth c G own cc nL) (w : zg_W G S s H locs) (k : Nat) {ci N index : Nat} {fs : List Value} {C0 : String} {T : u_T} (hin : ∀ w ∈ u_ws C0 T N, w ∈ zt_G) (ty0 : Nat → FieldType) (hty : ∀ k, k < N → parseFieldDescriptor (T k).2.2.1 = some (ty0 k)) (hnm : ∀ a, a < N → ∀ b, b < N → a ≠ b → (T a).2.1 ≠ (T b).2.1) (hk : (zw_L G S)[k]? = some (zg_q G k, .inr (ci, fs))) (hc : vwCl[ci]? = some (C0, T, N)) (j : Nat) (hj : j < N) (hlink : Cond.fieldLink own index (T j).1 (T j).2.1 (T j).2.2.1 ∈ zt_G) (hfin : (T j).2.2.2 = false) {ty : FieldType} {v : Value} (hd : parseFieldDescriptor (T j).2.2.1 = some ty) (hn : narrow ty v = v) (hfit : fits ty v = true) (hl : j < fs.length) {S2 : zs_T} (hs : (zw_L G S).set k (zg_q G k, .inr (ci, fs.set j v)) = zw_L G S2) (hdg : decode cc pc = .ok (.putfield index, 3)) {f : zs_T → β} {o : β} (h : zc_lt S2 f = o)
    (kk : ∀ (S1 : zs_T) (H1 : Heap) (locs1 : List Loc), zg_W G S1 s H1 locs1 → f S1 = o → W p l e R s m args below meth c H1 locs1 cells slots Q (F0 m (pc + 3) ls rest)) : W p l e R s m args below meth c H locs cells slots Q (F0 m pc ls (v :: .ref (zg_q G k) :: rest)) :=
  va_put C.1 C.2.1 C.2.2.2.2.1 hin ty0 hty hnm C.2.2.2.1 C.2.2.2.2.2.2.1 w.1 w.2.1 w.2.2 k hk hc j hj (C.2.2.2.2.1 _ hlink) (fun _ h => h) hfin hd hn hfit hl hdg (fun H1 locs1 a b d => kk _ H1 locs1 ⟨by rw [← hs]; exact a, by rw [← hs]; exact b, d⟩ h)
theorem zr_gets (C : zx_C p s m args meth c G own cc nL) (w : zg_W G S s H locs) (j : Nat) (hj : j < 13) {index : Nat} (hlink : Cond.fieldLink own index (zt_C j) (zt_n j) "[I" ∈ zt_G) (hdg : decode cc pc = .ok (.getstatic index, 3))
    (kk : W p l e R s m args below meth c H locs cells slots Q (F0 m (pc + 3) ls (.ref (zg_t G j) :: rest))) : W p l e R s m args below meth c H locs cells slots Q (F0 m pc ls rest) :=
  va_gets C.1 C.2.1 (C.2.2.2.2.2.2.2.2.2.2.1 j hj).1 w.2.2 C.2.2.2.1 (C.2.2.2.2.1 _ hlink) (fun _ h => h) hdg kk
theorem zr_getsN (C : zx_C p s m args meth c G own cc nL) (w : zg_W G S s H locs) (j : Nat) (hj : j < 13) {index : Nat} (hlink : (own, index, zt_C j, zt_n j, "[I") ∈ zn_F) (hdg : decode cc pc = .ok (.getstatic index, 3))
    (kk : W p l e R s m args below meth c H locs cells slots Q (F0 m (pc + 3) ls (.ref (zg_t G j) :: rest))) : W p l e R s m args below meth c H locs cells slots Q (F0 m pc ls rest) :=
  va_getsN C.1 C.2.1 (C.2.2.2.2.2.2.2.2.2.2.1 j hj).1 w.2.2 C.2.2.2.1 ((C.2.2.2.2.2.2.2.2.1 _ hlink).use rfl) (fun _ h => h) hdg kk
theorem zr_tab (C : zx_C p s m args meth c G own cc nL) (w : zg_W G S s H locs) (j : Nat) (hj : j < 13) {n : Nat} (hn : zt_N j = n) {g : Nat → Int32} (hg : zt_v j = g) {i : Int32} (hdg : decode cc pc = .ok (.iaload, 1)) {x : Option α} {o : α} (h : zc_gi i n x = some o)
    (kk : x = some o → W p l e R s m args below meth c H locs cells slots Q (F0 m (pc + 1) ls (.int (g i.toNatClampNeg) :: rest))) : W p l e R s m args below meth c H locs cells slots Q (F0 m pc ls (.int i :: .ref (zg_t G j) :: rest)) := by
  subst hn; subst hg
  exact va_ti C.1 C.2.1 (C.2.2.2.2.2.2.2.2.2.2.1 j hj).2 w.2.2 (zc_gi_x h).1 rfl hdg (kk (zc_gi_x h).2)
theorem zr_tlen (C : zx_C p s m args meth c G own cc nL) (w : zg_W G S s H locs) (j : Nat) (hj : j < 13) {v : Int32} (hv : Int32.ofNat (zt_N j) = v) (hdg : decode cc pc = .ok (.arraylength, 1))
    (kk : W p l e R s m args below meth c H locs cells slots Q (F0 m (pc + 1) ls (.int v :: rest))) : W p l e R s m args below meth c H locs cells slots Q (F0 m pc ls (.ref (zg_t G j) :: rest)) :=
  va_tlen C.1 C.2.1 (C.2.2.2.2.2.2.2.2.2.2.1 j hj).2 w.2.2 hv hdg kk
/-! calls -/
theorem zr_run {v : Option Value} {S1 : zs_T} {st0 : List Value} {a : Array Value} (hr : va_Run p l e R s m args below meth c H locs cells slots 0 0 (F0 m pc ls st0) rest (zg_Q G v S1 a) (zg_A G)) (w : zg_W G S s H locs)
    (kk : ∀ (H1 : Heap) (locs1 : List Loc), zg_W G S1 s H1 locs1 → W p l e R s m args below meth c H1 locs1 cells slots Q (F0 m (pc + 3) ls (v.toList ++ rest))) : W p l e R s m args below meth c H locs cells slots Q (F0 m pc ls st0) := by
  intro T hT X
  obtain ⟨v', st₀, t, T', L, h0, X', hL, e1, e2, ⟨hv, ⟨-, hP, hD⟩, hz, hk⟩, st⟩ := hr T hT X
  cases hv
  rw [h0] at hz hk
  obtain ⟨t2, a1, b1⟩ := kk T'.heap (locs ++ L) ⟨by rw [e1]; exact hP, hD, Nat.le_trans w.2.2.1 (by rw [e1]; exact hz), fun q h1 h2 => by
      rw [e1, hk q (Nat.lt_of_lt_of_le h1 w.2.2.1) h2]; exact w.2.2.2.1 q h1 h2, fun q hq => by
      rcases List.mem_append.mp hq with h | h
      · exact w.2.2.2.2 q h
      · exact hL q h⟩ T' rfl X'
  exact ⟨t2, st t2 a1, b1⟩
theorem zr_callS {y : MethodName} {bytes : ByteArray} {maxL n index : Nat} {ret : Option FieldType} {rm : Room} {v : Option Value} {S1 : zs_T} {As st0 : List Value} (C : zx_C p s m args meth c G own cc nL) (w : zg_W G S s H locs)
    (hM : Met l y (Cond.code y bytes maxL ret :: zt_G) rm (va_Pc As (zg_P G S)) (zg_Q G v S1) 0 0 (zg_A G)) (hcode : Cond.code y bytes maxL ret ∈ zt_G) (hlink : Cond.methodLink own index y ∈ zt_G) (hstat : Cond.static y ∈ zt_G) (hini : Cond.initialized y.cls ∈ zt_G)
    (hd : y.cls ≠ "java/lang/invoke/MethodHandle" ∧ y.cls ≠ "java/lang/invoke/VarHandle" ∧ (parseMethodDescriptor y.desc).map (fun d => d.parameters.length) = some n) (hrm : rm.cells = 0 ∧ rm.slots = 0) (hR : rm.frames + 1 ≤ R.frames ∧ 8 + (maxL + 11) + rm.locals ≤ R.locals)
    (hl : ls.size = nL) (hn : As.length = n) (hst : st0 = As.reverse ++ rest) (hw : (rest.map fun v => v.category).sum ≤ 8) (hdg : decode cc pc = .ok (.invokestatic index, 3)) (hf : cells ≤ R.cells ∧ slots ≤ R.slots)
    (kk : ∀ (H1 : Heap) (locs1 : List Loc), zg_W G S1 s H1 locs1 → W p l e R s m args below meth c H1 locs1 cells slots Q (F0 m (pc + 3) ls (v.toList ++ rest))) : W p l e R s m args below meth c H locs cells slots Q (F0 m pc ls st0) :=
  zr_run (va_runS (As := As) (rest := rest) (nL := nL) (n := n) ⟨C.1, C.2.1, C.2.2.1, C.2.2.2.1, C.2.2.2.2.1⟩ hM ⟨callB_of n C.2.2.2.2.1 (zt_in hcode) rfl hrm.1 hrm.2 (C.2.2.2.2.1 _ hini) (C.2.2.2.2.1 _ hlink) hd hR, C.2.2.2.2.1 _ hstat⟩
    ⟨zg_blind, fun U hU hW => ⟨rfl, zg_P.to C.2.2.2.2.2.2 w hU hW⟩⟩ rfl hn hl hst (by show 2 * 0 + _ ≤ 8; omega) hdg ⟨hf.1, hf.2⟩) w kk
theorem zr_callV {y : MethodName} {bytes : ByteArray} {maxL n index : Nat} {ret : Option FieldType} {rm : Room} {v : Option Value} {S1 : zs_T} {As st0 : List Value} (C : zx_C p s m args meth c G own cc nL) (w : zg_W G S s H locs) (k : Nat) {ci N : Nat} {fs : List Value} {T : u_T} (hk : (zw_L G S)[k]? = some (zg_q G k, .inr (ci, fs))) (hc : vwCl[ci]? = some (y.cls, T, N))
    (hM : Met l y (Cond.code y bytes maxL ret :: zt_G) rm (va_Pc (.ref (zg_q G k) :: As) (zg_P G S)) (zg_Q G v S1) 0 0 (zg_A G)) (hcode : Cond.code y bytes maxL ret ∈ zt_G) (hlink : Cond.methodLink own index y ∈ zt_G) (hinst : Cond.instanceMethod y ∈ zt_G) (hsel : Cond.selects y.cls y y ∈ zt_G) (hini : Cond.initialized y.cls ∈ zt_G)
    (hd : y.cls ≠ "java/lang/invoke/MethodHandle" ∧ y.cls ≠ "java/lang/invoke/VarHandle" ∧ (parseMethodDescriptor y.desc).map (fun d => d.parameters.length) = some n) (hrm : rm.cells = 0 ∧ rm.slots = 0) (hR : rm.frames + 1 ≤ R.frames ∧ 8 + (maxL + 11) + rm.locals ≤ R.locals)
    (hl : ls.size = nL) (hn : As.length = n) (hst : st0 = As.reverse ++ .ref (zg_q G k) :: rest) (hw : (rest.map fun v => v.category).sum ≤ 8) (hdg : decode cc pc = .ok (.invokevirtual index, 3)) (hf : cells ≤ R.cells ∧ slots ≤ R.slots)
    (kk : ∀ (H1 : Heap) (locs1 : List Loc), zg_W G S1 s H1 locs1 → W p l e R s m args below meth c H1 locs1 cells slots Q (F0 m (pc + 3) ls (v.toList ++ rest))) : W p l e R s m args below meth c H locs cells slots Q (F0 m pc ls st0) :=
  zr_run (va_runV (As := As) (rest := rest) (nL := nL) (n := n) (C := y.cls) ⟨C.1, C.2.1, C.2.2.1, C.2.2.2.1, C.2.2.2.2.1⟩ hM ⟨callB_of n C.2.2.2.2.1 (zt_in hcode) rfl hrm.1 hrm.2 (C.2.2.2.2.1 _ hini) (C.2.2.2.2.1 _ hlink) hd hR, C.2.2.2.2.1 _ hinst, C.2.2.2.2.1 _ hsel⟩
    ⟨zg_blind, va_recv C.2.2.2.2.2.2.1 w.1 hc hk, fun U hU hW => ⟨rfl, zg_P.to C.2.2.2.2.2.2 w hU hW⟩⟩ rfl hn hl hst (by show 2 * 0 + _ ≤ 8; omega) hdg ⟨hf.1, hf.2⟩) w kk
/-! ends -/
theorem zr_reti (C : zx_C p s m args meth c G own cc nL) (w : zg_W G S s H locs) (hr : meth.sig.returnType = some .int) (hdg : decode cc pc = .ok (.ireturn, 1)) {v : Int32} {v1 : Int32} {S1 : zs_T} (hv : v = v1) (hS : S = S1) : W p l e R s m args below meth c H locs cells slots (MQ below (zg_Q G (some (.int v1)) S1) args s cells slots (zg_A G)) (F0 m pc ls [.int v]) := by
  subst hv; subst hS
  exact W.iret C.1 C.2.1 hr (fun t ht hW => ⟨rfl, zg_P.to C.2.2.2.2.2.2 w ht hW, w.2.2.F ht⟩) w.2.2.2.2 hdg C.2.2.2.2.2.1
theorem zr_retl (C : zx_C p s m args meth c G own cc nL) (w : zg_W G S s H locs) (hr : meth.sig.returnType = some .long) (hdg : decode cc pc = .ok (.lreturn, 1)) {v : Int64} {v1 : Int64} {S1 : zs_T} (hv : v = v1) (hS : S = S1) : W p l e R s m args below meth c H locs cells slots (MQ below (zg_Q G (some (.long v1)) S1) args s cells slots (zg_A G)) (F0 m pc ls [.long v]) := by
  subst hv; subst hS
  exact W.lret C.1 C.2.1 hr (fun t ht hW => ⟨rfl, zg_P.to C.2.2.2.2.2.2 w ht hW, w.2.2.F ht⟩) w.2.2.2.2 hdg C.2.2.2.2.2.1
theorem zr_retv (C : zx_C p s m args meth c G own cc nL) (w : zg_W G S s H locs) (hr : meth.sig.returnType = none) (hdg : decode cc pc = .ok (.return_, 1)) {S1 : zs_T} (hS : S = S1) : W p l e R s m args below meth c H locs cells slots (MQ below (zg_Q G none S1) args s cells slots (zg_A G)) (F0 m pc ls []) := by
  subst hS
  exact W.vret C.1 C.2.1 hr (fun t ht hW => ⟨rfl, zg_P.to C.2.2.2.2.2.2 w ht hW, w.2.2.F ht⟩) w.2.2.2.2 hdg C.2.2.2.2.2.1
end ZR
end
