theorem gLe_0 {l : List (Option Value)} : gLe [] l := trivial
theorem gLe_c {v : Value} {o : Option Value} {t t' : List (Option Value)} (h : o = some v) (ht : gLe t t') : gLe (some v :: t) (o :: t') := ⟨h, ht⟩
theorem gLe_n {o : Option Value} {t t' : List (Option Value)} (ht : gLe t t') : gLe (none :: t) (o :: t') := ht
theorem g_up (e : Nat) (P : Nat → Prop) (h : ∀ i, i ≤ e → (i < e → P (i + 1)) → P i) : ∀ i, i ≤ e → P i := by
  have key : ∀ d i, i + d = e → P i := by
    intro d
    induction d with
    | zero => intro i hi; exact h i (by omega) (fun q => absurd q (by omega))
    | succ d ih => intro i hi; exact h i (by omega) (fun _ => ih (i + 1) (by omega))
  intro i hi
  exact key (e - i) i (by omega)
theorem g_dn (P : Nat → Prop) (h0 : P 0) (h : ∀ i, P i → P (i + 1)) : ∀ i, P i := fun i => Nat.rec h0 (fun i ih => h i ih) i
theorem gTr_lt {t : Nat} (h : gTr t) : t < 156 := Nat.lt_of_succ_lt h.2.2.1
theorem gFs_tr0 {b : Nat} {F : Nat → Nat → Int32} {S : Int64} {t : Nat} (h : gTr t) : (gFs b F S t)[0]? = some (.ref (b + (t + 1))) := by rw [gFs_tr h]; rfl
def gCm (k : Nat) : Prop := k = 131 ∨ k = 138
theorem gCm_k {k : Nat} (h : gCm k) : gKd k = (6, 2) := by rcases h with rfl | rfl <;> rfl
theorem gCm_lt {k : Nat} (h : gCm k) : k < 156 := by rcases h with rfl | rfl <;> decide
theorem gFs_cm0 {b : Nat} {F : Nat → Nat → Int32} {S : Int64} {k : Nat} (h : gCm k) : (gFs b F S k)[0]? = some (.ref (b + (k + 1))) := by rcases h with rfl | rfl <;> rfl
theorem gFs_cm1 {b : Nat} {F : Nat → Nat → Int32} {S : Int64} {k : Nat} (h : gCm k) : (gFs b F S k)[1]? = some (.ref (b + (k + 3))) := by rcases h with rfl | rfl <;> rfl
theorem gFs_cm2 {b : Nat} {F : Nat → Nat → Int32} {S : Int64} {k : Nat} (h : gCm k) : (gFs b F S k)[2]? = some (.ref (b + (k + 5))) := by rcases h with rfl | rfl <;> rfl
theorem gFs_cm3 {b : Nat} {F : Nat → Nat → Int32} {S : Int64} {k : Nat} (h : gCm k) : (gFs b F S k)[3]? = some (.ref (b + (k + 6))) := by rcases h with rfl | rfl <;> rfl
theorem bI_nar (b : Bool) : narrow .boolean (.int (bI b)) = .int (bI b) := by cases b <;> rfl
section QENDS
variable {G : gG} {X : gX} {own : String} {cc : ByteArray} {nL : Nat} {R : Room} {k n pc : Nat} {lv : List (Option Value)} {M M' : gMem} {μ : gM} {rm : Room}
theorem q_iret (C : gC G X own cc nL R) {v v' : Int32} (CM : gCM G X μ rm false (Rt G (some (.int v')) M')) (hret : μ.2.2.2.1 = some .int) (hk : k ≤ rm.cells) (hn : n ≤ rm.slots) (d : decode cc pc = .ok (.ireturn, 1)) (hv : v = v') (hM : M = M') : Q G X k n pc lv [.int v] M :=
  j_iret C CM hret hk hn d ⟨by rw [hv], rfl, by rw [hM]⟩
theorem q_zret (C : gC G X own cc nL R) {v : Int32} {b : Bool} (CM : gCM G X μ rm false (Rt G (some (.int (bI b))) M')) (hret : μ.2.2.2.1 = some .boolean) (hk : k ≤ rm.cells) (hn : n ≤ rm.slots) (d : decode cc pc = .ok (.ireturn, 1)) (hv : v = bI b) (hM : M = M') : Q G X k n pc lv [.int v] M :=
  j_zret C CM hret (by rw [hv]; exact bI_nar b) hk hn d ⟨by rw [hv], rfl, by rw [hM]⟩
theorem q_lret (C : gC G X own cc nL R) {v v' : Int64} (CM : gCM G X μ rm false (Rt G (some (.long v')) M')) (hret : μ.2.2.2.1 = some .long) (hk : k ≤ rm.cells) (hn : n ≤ rm.slots) (d : decode cc pc = .ok (.lreturn, 1)) (hv : v = v') (hM : M = M') : Q G X k n pc lv [.long v] M :=
  j_lret C CM hret hk hn d ⟨by rw [hv], rfl, by rw [hM]⟩
theorem q_fret (C : gC G X own cc nL R) {v v' : UInt32} (CM : gCM G X μ rm false (Rt G (some (.float v')) M')) (hret : μ.2.2.2.1 = some .float) (hk : k ≤ rm.cells) (hn : n ≤ rm.slots) (d : decode cc pc = .ok (.freturn, 1)) (hv : v = v') (hM : M = M') : Q G X k n pc lv [.float v] M :=
  j_fret C CM hret hk hn d ⟨by rw [hv], rfl, by rw [hM]⟩
theorem q_dret (C : gC G X own cc nL R) {v v' : UInt64} (CM : gCM G X μ rm false (Rt G (some (.double v')) M')) (hret : μ.2.2.2.1 = some .double) (hk : k ≤ rm.cells) (hn : n ≤ rm.slots) (d : decode cc pc = .ok (.dreturn, 1)) (hv : v = v') (hM : M = M') : Q G X k n pc lv [.double v] M :=
  j_dret C CM hret hk hn d ⟨by rw [hv], rfl, by rw [hM]⟩
theorem q_aret (C : gC G X own cc nL R) {v v' : Nat} {nm : String} (CM : gCM G X μ rm false (Rt G (some (.ref v')) M')) (hret : μ.2.2.2.1 = some (.object nm)) (hk : k ≤ rm.cells) (hn : n ≤ rm.slots) (d : decode cc pc = .ok (.areturn, 1)) (hv : v = v') (hM : M = M') : Q G X k n pc lv [.ref v] M :=
  j_aret C CM hret hk hn d ⟨by rw [hv], rfl, by rw [hM]⟩
theorem q_vret (C : gC G X own cc nL R) (CM : gCM G X μ rm false (Rt G none M')) (hret : μ.2.2.2.1 = none) (hk : k ≤ rm.cells) (hn : n ≤ rm.slots) (d : decode cc pc = .ok (.return_, 1)) (hM : M = M') : Q G X k n pc lv [] M :=
  j_vret C CM hret hk hn d ⟨rfl, rfl, by rw [hM]⟩
end QENDS
theorem vX6_changedPaths : gV mX6_changedPaths 0 7 TX6 7 := ⟨rfl, kX6_changedPaths, iX6_changedPaths, sX6_changedPaths, rfl⟩
theorem vX6_headOf : gV mX6_headOf 1 7 TX6 7 := ⟨rfl, kX6_headOf, iX6_headOf, sX6_headOf, rfl⟩
theorem vX6_isBranchNumber : gSt mX6_isBranchNumber 1 := ⟨rfl, kX6_isBranchNumber, tX6_isBranchNumber⟩
theorem vX1_treeOf : gV mX1_treeOf 1 3 TX1 8 := ⟨rfl, kX1_treeOf, iX1_treeOf, sX1_treeOf, rfl⟩
theorem vX1_has : gV mX1_has 1 3 TX1 8 := ⟨rfl, kX1_has, iX1_has, sX1_has, rfl⟩
theorem vX4_differences : gV mX4_differences 1 5 TX4 1 := ⟨rfl, kX4_differences, iX4_differences, sX4_differences, rfl⟩
theorem vX4_at : gV mX4_at 1 5 TX4 1 := ⟨rfl, kX4_at, iX4_at, sX4_at, rfl⟩
theorem vX6_currentBranch : gV mX6_currentBranch 0 7 TX6 7 := ⟨rfl, kX6_currentBranch, iX6_currentBranch, sX6_currentBranch, rfl⟩
theorem vX6_commits : gV mX6_commits 0 7 TX6 7 := ⟨rfl, kX6_commits, iX6_commits, sX6_commits, rfl⟩
theorem vX1_size : gV mX1_size 0 3 TX1 8 := ⟨rfl, kX1_size, iX1_size, sX1_size, rfl⟩
theorem vL_at : gSt mL_at 2 := ⟨rfl, kL_at, tL_at⟩
theorem vL_some : gSt mL_some 2 := ⟨rfl, kL_some, tL_some⟩
theorem vX6_write : gV mX6_write 2 7 TX6 7 := ⟨rfl, kX6_write, iX6_write, sX6_write, rfl⟩
theorem vX6_requirePath : gSt mX6_requirePath 1 := ⟨rfl, kX6_requirePath, tX6_requirePath⟩
theorem vX4_put : gV mX4_put 2 5 TX4 1 := ⟨rfl, kX4_put, iX4_put, sX4_put, rfl⟩
theorem vX6_erase : gV mX6_erase 1 7 TX6 7 := ⟨rfl, kX6_erase, iX6_erase, sX6_erase, rfl⟩
theorem vX6_requireFile : gSt mX6_requireFile 2 := ⟨rfl, kX6_requireFile, tX6_requireFile⟩
theorem vX6_move : gV mX6_move 2 7 TX6 7 := ⟨rfl, kX6_move, iX6_move, sX6_move, rfl⟩
theorem vX6_content : gV mX6_content 1 7 TX6 7 := ⟨rfl, kX6_content, iX6_content, sX6_content, rfl⟩
theorem vX6_commit : gV mX6_commit 0 7 TX6 7 := ⟨rfl, kX6_commit, iX6_commit, sX6_commit, rfl⟩
theorem vX1_record : gV mX1_record 3 3 TX1 8 := ⟨rfl, kX1_record, iX1_record, sX1_record, rfl⟩
theorem vX1_findSame : gV mX1_findSame 3 3 TX1 8 := ⟨rfl, kX1_findSame, iX1_findSame, sX1_findSame, rfl⟩
theorem vX1_firstParent : gV mX1_firstParent 1 3 TX1 8 := ⟨rfl, kX1_firstParent, iX1_firstParent, sX1_firstParent, rfl⟩
theorem vX1_secondParent : gV mX1_secondParent 1 3 TX1 8 := ⟨rfl, kX1_secondParent, iX1_secondParent, sX1_secondParent, rfl⟩
theorem vX4_copy : gV mX4_copy 1 5 TX4 1 := ⟨rfl, kX4_copy, iX4_copy, sX4_copy, rfl⟩
theorem vX1_generationAt : gV mX1_generationAt 1 3 TX1 8 := ⟨rfl, kX1_generationAt, iX1_generationAt, sX1_generationAt, rfl⟩
theorem vJ9_max_7cf53 : gSt mJ9_max_7cf53 2 := ⟨rfl, kJ9_max_7cf53, tJ9_max_7cf53⟩
theorem vX1_ancestorsAt : gV mX1_ancestorsAt 1 3 TX1 8 := ⟨rfl, kX1_ancestorsAt, iX1_ancestorsAt, sX1_ancestorsAt, rfl⟩
theorem vX6_takeAsHead : gV mX6_takeAsHead 1 7 TX6 7 := ⟨rfl, kX6_takeAsHead, iX6_takeAsHead, sX6_takeAsHead, rfl⟩
theorem vX3_catchUpWith : gV mX3_catchUpWith 1 4 TX3 6 := ⟨rfl, kX3_catchUpWith, iX3_catchUpWith, sX3_catchUpWith, rfl⟩
theorem vX3_add : gV mX3_add 1 4 TX3 6 := ⟨rfl, kX3_add, iX3_add, sX3_add, rfl⟩
theorem vX3_find : gV mX3_find 1 4 TX3 6 := ⟨rfl, kX3_find, iX3_find, sX3_find, rfl⟩
theorem vX2_likeness : gSt mX2_likeness 2 := ⟨rfl, kX2_likeness, tX2_likeness⟩
theorem vX6_branch : gV mX6_branch 1 7 TX6 7 := ⟨rfl, kX6_branch, iX6_branch, sX6_branch, rfl⟩
theorem vX6_checkOut : gV mX6_checkOut 1 7 TX6 7 := ⟨rfl, kX6_checkOut, iX6_checkOut, sX6_checkOut, rfl⟩
theorem vX6_requireHead : gV mX6_requireHead 1 7 TX6 7 := ⟨rfl, kX6_requireHead, iX6_requireHead, sX6_requireHead, rfl⟩
theorem vX6_requireNoChanges : gV mX6_requireNoChanges 0 7 TX6 7 := ⟨rfl, kX6_requireNoChanges, iX6_requireNoChanges, sX6_requireNoChanges, rfl⟩
theorem vX6_reset : gV mX6_reset 1 7 TX6 7 := ⟨rfl, kX6_reset, iX6_reset, sX6_reset, rfl⟩
theorem vX6_requireCommit : gV mX6_requireCommit 1 7 TX6 7 := ⟨rfl, kX6_requireCommit, iX6_requireCommit, sX6_requireCommit, rfl⟩
theorem vX6_merge : gV mX6_merge 1 7 TX6 7 := ⟨rfl, kX6_merge, iX6_merge, sX6_merge, rfl⟩
theorem vX1_contains : gV mX1_contains 2 3 TX1 8 := ⟨rfl, kX1_contains, iX1_contains, sX1_contains, rfl⟩
theorem vX1_isIn : gV mX1_isIn 2 3 TX1 8 := ⟨rfl, kX1_isIn, iX1_isIn, sX1_isIn, rfl⟩
theorem vX6_recordMerge : gV mX6_recordMerge 2 7 TX6 7 := ⟨rfl, kX6_recordMerge, iX6_recordMerge, sX6_recordMerge, rfl⟩
theorem vX1_bestBase : gV mX1_bestBase 2 3 TX1 8 := ⟨rfl, kX1_bestBase, iX1_bestBase, sX1_bestBase, rfl⟩
theorem vX5_run : gV mX5_run 4 6 TX5 5 := ⟨rfl, kX5_run, iX5_run, sX5_run, rfl⟩
theorem vX0_run : gV mX0_run 2 2 TX0 4 := ⟨rfl, kX0_run, iX0_run, sX0_run, rfl⟩
theorem vX0_takeMoves : gV mX0_takeMoves 1 2 TX0 4 := ⟨rfl, kX0_takeMoves, iX0_takeMoves, sX0_takeMoves, rfl⟩
theorem vX0_isFreeToLeave : gV mX0_isFreeToLeave 1 2 TX0 4 := ⟨rfl, kX0_isFreeToLeave, iX0_isFreeToLeave, sX0_isFreeToLeave, rfl⟩
theorem vX0_target : gV mX0_target 1 2 TX0 4 := ⟨rfl, kX0_target, iX0_target, sX0_target, rfl⟩
theorem vX0_isFreeToCome : gV mX0_isFreeToCome 1 2 TX0 4 := ⟨rfl, kX0_isFreeToCome, iX0_isFreeToCome, sX0_isFreeToCome, rfl⟩
theorem vX0_source : gV mX0_source 1 2 TX0 4 := ⟨rfl, kX0_source, iX0_source, sX0_source, rfl⟩
theorem vX0_contentBefore : gV mX0_contentBefore 1 2 TX0 4 := ⟨rfl, kX0_contentBefore, iX0_contentBefore, sX0_contentBefore, rfl⟩
theorem vX5_follow : gV mX5_follow 1 6 TX5 5 := ⟨rfl, kX5_follow, iX5_follow, sX5_follow, rfl⟩
theorem vX0_placeOf : gV mX0_placeOf 1 2 TX0 4 := ⟨rfl, kX0_placeOf, iX0_placeOf, sX0_placeOf, rfl⟩
theorem vX0_isNowhereOrUnchanged : gV mX0_isNowhereOrUnchanged 1 2 TX0 4 := ⟨rfl, kX0_isNowhereOrUnchanged, iX0_isNowhereOrUnchanged, sX0_isNowhereOrUnchanged, rfl⟩
theorem vX2_changed : gSt mX2_changed 3 := ⟨rfl, kX2_changed, tX2_changed⟩
theorem vX0_contentAfter : gV mX0_contentAfter 1 2 TX0 4 := ⟨rfl, kX0_contentAfter, iX0_contentAfter, sX0_contentAfter, rfl⟩
theorem vX2_mergeContents : gSt mX2_mergeContents 3 := ⟨rfl, kX2_mergeContents, tX2_mergeContents⟩
theorem vX5_arrive : gV mX5_arrive 2 6 TX5 5 := ⟨rfl, kX5_arrive, iX5_arrive, sX5_arrive, rfl⟩
theorem vX5_bringNewFiles : gV mX5_bringNewFiles 1 6 TX5 5 := ⟨rfl, kX5_bringNewFiles, iX5_bringNewFiles, sX5_bringNewFiles, rfl⟩
theorem vX0_newContentAt : gV mX0_newContentAt 1 2 TX0 4 := ⟨rfl, kX0_newContentAt, iX0_newContentAt, sX0_newContentAt, rfl⟩
theorem vX5_countCrowdedPaths : gV mX5_countCrowdedPaths 0 6 TX5 5 := ⟨rfl, kX5_countCrowdedPaths, iX5_countCrowdedPaths, sX5_countCrowdedPaths, rfl⟩
theorem vX5_merged : gV mX5_merged 0 6 TX5 5 := ⟨rfl, kX5_merged, iX5_merged, sX5_merged, rfl⟩
theorem vX6_putOnto : gV mX6_putOnto 1 7 TX6 7 := ⟨rfl, kX6_putOnto, iX6_putOnto, sX6_putOnto, rfl⟩
theorem vX6_listCommitsNotIn : gV mX6_listCommitsNotIn 2 7 TX6 7 := ⟨rfl, kX6_listCommitsNotIn, iX6_listCommitsNotIn, sX6_listCommitsNotIn, rfl⟩
theorem vX6_applyListed : gV mX6_applyListed 2 7 TX6 7 := ⟨rfl, kX6_applyListed, iX6_applyListed, sX6_applyListed, rfl⟩
theorem vJ9_min_7cf53 : gSt mJ9_min_7cf53 2 := ⟨rfl, kJ9_min_7cf53, tJ9_min_7cf53⟩
theorem vX1_dropBackTo : gV mX1_dropBackTo 1 3 TX1 8 := ⟨rfl, kX1_dropBackTo, iX1_dropBackTo, sX1_dropBackTo, rfl⟩
theorem vX6_head : gV mX6_head 1 7 TX6 7 := ⟨rfl, kX6_head, iX6_head, sX6_head, rfl⟩
theorem vX6_contentIn : gV mX6_contentIn 2 7 TX6 7 := ⟨rfl, kX6_contentIn, iX6_contentIn, sX6_contentIn, rfl⟩
theorem vX6_parentOf : gV mX6_parentOf 2 7 TX6 7 := ⟨rfl, kX6_parentOf, iX6_parentOf, sX6_parentOf, rfl⟩
theorem vX6_movedTo : gV mX6_movedTo 3 7 TX6 7 := ⟨rfl, kX6_movedTo, iX6_movedTo, sX6_movedTo, rfl⟩
theorem vX5_moveBetween : gV mX5_moveBetween 3 6 TX5 5 := ⟨rfl, kX5_moveBetween, iX5_moveBetween, sX5_moveBetween, rfl⟩
theorem vX6_lastChange : gV mX6_lastChange 1 7 TX6 7 := ⟨rfl, kX6_lastChange, iX6_lastChange, sX6_lastChange, rfl⟩
theorem vX1_lastChangeAt : gV mX1_lastChangeAt 2 3 TX1 8 := ⟨rfl, kX1_lastChangeAt, iX1_lastChangeAt, sX1_lastChangeAt, rfl⟩
theorem vX6_depthOf : gV mX6_depthOf 1 7 TX6 7 := ⟨rfl, kX6_depthOf, iX6_depthOf, sX6_depthOf, rfl⟩
theorem vX3_depthAt : gV mX3_depthAt 1 4 TX3 6 := ⟨rfl, kX3_depthAt, iX3_depthAt, sX3_depthAt, rfl⟩
theorem vX3_hasPlace : gV mX3_hasPlace 1 4 TX3 6 := ⟨rfl, kX3_hasPlace, iX3_hasPlace, sX3_hasPlace, rfl⟩
theorem vX6_packedFrom : gV mX6_packedFrom 1 7 TX6 7 := ⟨rfl, kX6_packedFrom, iX6_packedFrom, sX6_packedFrom, rfl⟩
theorem vX3_sourceAt : gV mX3_sourceAt 1 4 TX3 6 := ⟨rfl, kX3_sourceAt, iX3_sourceAt, sX3_sourceAt, rfl⟩
theorem vL_text : gSt mL_text 1 := ⟨rfl, kL_text, tL_text⟩
theorem vL_sum : gSt mL_sum 1 := ⟨rfl, kL_sum, tL_sum⟩
theorem vX6_packed : gV mX6_packed 0 7 TX6 7 := ⟨rfl, kX6_packed, iX6_packed, sX6_packed, rfl⟩
theorem vX3_size : gV mX3_size 0 4 TX3 6 := ⟨rfl, kX3_size, iX3_size, sX3_size, rfl⟩
theorem vX6_packSize : gV mX6_packSize 0 7 TX6 7 := ⟨rfl, kX6_packSize, iX6_packSize, sX6_packSize, rfl⟩
theorem vX3_sumOfSizes : gV mX3_sumOfSizes 0 4 TX3 6 := ⟨rfl, kX3_sumOfSizes, iX3_sumOfSizes, sX3_sumOfSizes, rfl⟩
theorem vL_isRelated : gSt mL_isRelated 3 := ⟨rfl, kL_isRelated, tL_isRelated⟩
theorem vX6_base : gV mX6_base 2 7 TX6 7 := ⟨rfl, kX6_base, iX6_base, sX6_base, rfl⟩
theorem vX6_baseByWalking : gV mX6_baseByWalking 2 7 TX6 7 := ⟨rfl, kX6_baseByWalking, iX6_baseByWalking, sX6_baseByWalking, rfl⟩
theorem vX1_walkToBestBase : gV mX1_walkToBestBase 2 3 TX1 8 := ⟨rfl, kX1_walkToBestBase, iX1_walkToBestBase, sX1_walkToBestBase, rfl⟩
theorem vX1_clearMarks : gV mX1_clearMarks 0 3 TX1 8 := ⟨rfl, kX1_clearMarks, iX1_clearMarks, sX1_clearMarks, rfl⟩
theorem vX1_mark : gV mX1_mark 2 3 TX1 8 := ⟨rfl, kX1_mark, iX1_mark, sX1_mark, rfl⟩
theorem vX1_marksAt : gV mX1_marksAt 1 3 TX1 8 := ⟨rfl, kX1_marksAt, iX1_marksAt, sX1_marksAt, rfl⟩
theorem vX1_markParents : gV mX1_markParents 1 3 TX1 8 := ⟨rfl, kX1_markParents, iX1_markParents, sX1_markParents, rfl⟩
theorem vX6_bases : gV mX6_bases 2 7 TX6 7 := ⟨rfl, kX6_bases, iX6_bases, sX6_bases, rfl⟩
theorem vX1_countBases : gV mX1_countBases 2 3 TX1 8 := ⟨rfl, kX1_countBases, iX1_countBases, sX1_countBases, rfl⟩
theorem vJ13_bitCount_95d88 : gSt mJ13_bitCount_95d88 1 := ⟨rfl, kJ13_bitCount_95d88, tJ13_bitCount_95d88⟩
theorem vX6_isAncestor : gV mX6_isAncestor 2 7 TX6 7 := ⟨rfl, kX6_isAncestor, iX6_isAncestor, sX6_isAncestor, rfl⟩
theorem vX6_isAncestorByWalking : gV mX6_isAncestorByWalking 2 7 TX6 7 := ⟨rfl, kX6_isAncestorByWalking, iX6_isAncestorByWalking, sX6_isAncestorByWalking, rfl⟩
theorem vX1_walkMeets : gV mX1_walkMeets 2 3 TX1 8 := ⟨rfl, kX1_walkMeets, iX1_walkMeets, sX1_walkMeets, rfl⟩
theorem vX6_generation : gV mX6_generation 1 7 TX6 7 := ⟨rfl, kX6_generation, iX6_generation, sX6_generation, rfl⟩
theorem vX6_conflicts : gV mX6_conflicts 2 7 TX6 7 := ⟨rfl, kX6_conflicts, iX6_conflicts, sX6_conflicts, rfl⟩
theorem vL_isPacked : gSt mL_isPacked 1 := ⟨rfl, kL_isPacked, tL_isPacked⟩
