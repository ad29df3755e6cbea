/-- Keys.size -/
def qc_t0 : List (List (Option qa_I)) := [[some (2, 0, 0, 1, 0), some (12, 2, 4, 4, 25), none, none, some (19, 0, 0, 4, 0)]]
/-- Film.shotCount -/
def qc_t1 : List (List (Option qa_I)) := [[some (2, 0, 0, 1, 0), some (12, 1, 3, 4, 21), none, none, some (19, 0, 0, 4, 0)]]
/-- Film.length -/
def qc_t2 : List (List (Option qa_I)) := [[some (2, 0, 0, 1, 0), some (12, 1, 4, 4, 25), none, none, some (19, 0, 0, 4, 0)]]
/-- Film.timesOf -/
def qc_t3 : List (List (Option qa_I)) := [[some (2, 0, 0, 1, 0), some (13, 1, 2, 4, 18), none, none, some (1, 1, 0, 5, 0), some (10, 0, 0, 6, 0), some (19, 0, 0, 6, 0)]]
/-- Film.needs -/
def qc_t4 : List (List (Option qa_I)) := [[some (2, 0, 0, 1, 0), some (13, 1, 2, 4, 18), none, none, some (1, 1, 0, 5, 0), some (10, 0, 0, 6, 0), some (16, 5, 13, 9, 0), none, none, some (0, 0, 1, 10, 0), some (17, 0, 0, 14, 0), none, none, some (0, 0, 0, 14, 0), some (19, 1, 0, 14, 0)]]
/-- Farm.machineCount -/
def qc_t5 : List (List (Option qa_I)) := [[some (2, 0, 0, 1, 0), some (12, 0, 3, 4, 22), none, none, some (19, 0, 0, 4, 0)]]
/-- Farm.earnings -/
def qc_t6 : List (List (Option qa_I)) := [[some (2, 0, 0, 1, 0), some (12, 0, 7, 4, 35), none, none, some (19, 0, 0, 4, 0)]]
/-- Rig.boneCount -/
def qc_t7 : List (List (Option qa_I)) := [[some (2, 0, 0, 1, 0), some (12, 3, 3, 4, 21), none, none, some (19, 0, 0, 4, 0)]]
/-- Rig.trackCount -/
def qc_t8 : List (List (Option qa_I)) := [[some (0, 0, 3, 1, 0), some (2, 0, 0, 2, 0), some (12, 3, 3, 5, 21), none, none, some (6, 3, 0, 6, 0), some (19, 0, 0, 6, 0)]]
/-- Rig.hasBone -/
def qc_t9 : List (List (Option qa_I)) := [[some (1, 1, 0, 1, 0), some (0, 0, 0, 2, 0), some (2, 0, 0, 3, 0), some (12, 3, 3, 6, 21), none, none, some (0, 0, 1, 7, 0), some (6, 2, 0, 8, 0), some (18, 41, 3, 11, 38), none, none, some (19, 1, 0, 11, 0)]]
/-- Rig.hasCell -/
def qc_t10 : List (List (Option qa_I)) := [[some (2, 0, 0, 1, 0), some (1, 1, 0, 2, 0), some (18, 9, 2, 5, 42), none, none, some (16, 0, 28, 8, 0), none, none, some (1, 2, 0, 9, 0), some (0, 0, 0, 10, 0), some (0, 0, 2, 11, 0), some (18, 41, 3, 14, 38), none, none, some (16, 0, 28, 17, 0), none, none, some (1, 3, 0, 18, 0), some (18, 42, 1, 21, 46), none, none, some (16, 0, 28, 24, 0), none, none, some (0, 0, 1, 25, 0), some (17, 0, 0, 29, 0), none, none, some (0, 0, 0, 29, 0), some (19, 1, 0, 29, 0)]]
/-- Rig.keyCount -/
def qc_t11 : List (List (Option qa_I)) := [[some (2, 0, 0, 1, 0), some (13, 3, 4, 4, 28), none, none, some (18, 0, 1, 7, 49), none, none, some (19, 0, 0, 7, 0)]]
/-- Rig.poseAt -/
def qc_t12 : List (List (Option qa_I)) := [[some (2, 0, 0, 1, 0), some (13, 3, 5, 4, 32), none, none, some (1, 1, 0, 5, 0), some (0, 0, 120, 7, 0), none, some (6, 3, 0, 8, 0), some (1, 2, 0, 9, 0), some (6, 0, 0, 10, 0), some (10, 0, 0, 11, 0), some (19, 0, 0, 11, 0)]]
/-- Rig.artistsAt -/
def qc_t13 : List (List (Option qa_I)) := [[some (0, 0, 0, 1, 0), some (3, 2, 0, 2, 0), some (0, 0, 0, 3, 0), some (3, 3, 0, 4, 0), some (1, 3, 0, 5, 0), some (2, 0, 0, 6, 0), some (18, 8, 1, 9, 75), none, none, some (15, 3, 32, 12, 0), none, none, some (1, 2, 0, 13, 0), some (2, 0, 0, 14, 0), some (13, 3, 6, 17, 35), none, none, some (1, 3, 0, 18, 0), some (0, 0, 120, 20, 0), none, some (6, 3, 0, 21, 0), some (1, 1, 0, 22, 0), some (6, 0, 0, 23, 0), some (10, 0, 0, 24, 0), some (6, 7, 0, 25, 0), some (3, 2, 0, 26, 0), some (5, 3, 1, 29, 0), none, none, some (17, 0, 0, 4, 0), none, none, some (1, 2, 0, 33, 0), some (19, 0, 0, 33, 0)]]
/-- Stills.standing -/
def qc_t14 : List (List (Option qa_I)) := [[some (2, 0, 0, 1, 0), some (13, 4, 2, 4, 18), none, none, some (1, 1, 0, 5, 0), some (10, 0, 0, 6, 0), some (19, 0, 0, 6, 0)]]
/-- Stills.voidCount -/
def qc_t15 : List (List (Option qa_I)) := [[some (0, 0, 0, 1, 0), some (3, 1, 0, 2, 0), some (0, 0, 0, 3, 0), some (3, 2, 0, 4, 0), some (1, 2, 0, 5, 0), some (0, 0, 120, 7, 0), none, some (15, 3, 29, 10, 0), none, none, some (2, 0, 0, 11, 0), some (13, 4, 2, 14, 18), none, none, some (1, 2, 0, 15, 0), some (10, 0, 0, 16, 0), some (0, 0, 2, 17, 0), some (15, 1, 23, 20, 0), none, none, some (5, 1, 1, 23, 0), none, none, some (5, 2, 1, 26, 0), none, none, some (17, 0, 0, 4, 0), none, none, some (1, 1, 0, 30, 0), some (19, 0, 0, 30, 0)]]
/-- Stills.voidCountByAll -/
def qc_t16 : List (List (Option qa_I)) := [[some (0, 0, 0, 1, 0), some (3, 2, 0, 2, 0), some (0, 0, 0, 3, 0), some (3, 3, 0, 4, 0), some (1, 3, 0, 5, 0), some (0, 0, 120, 7, 0), none, some (15, 3, 37, 10, 0), none, none, some (2, 0, 0, 11, 0), some (13, 4, 2, 14, 18), none, none, some (1, 3, 0, 15, 0), some (10, 0, 0, 16, 0), some (16, 0, 31, 19, 0), none, none, some (2, 0, 0, 20, 0), some (1, 3, 0, 21, 0), some (2, 1, 0, 22, 0), some (18, 17, 3, 25, 34), none, none, some (16, 1, 31, 28, 0), none, none, some (5, 2, 1, 31, 0), none, none, some (5, 3, 1, 34, 0), none, none, some (17, 0, 0, 4, 0), none, none, some (1, 2, 0, 38, 0), some (19, 0, 0, 38, 0)]]
/-- Stills.isAsMade -/
def qc_t17 : List (List (Option qa_I)) := [[some (2, 0, 0, 1, 0), some (13, 4, 1, 4, 15), none, none, some (1, 1, 0, 5, 0), some (10, 0, 0, 6, 0), some (2, 2, 0, 7, 0), some (18, 7, 1, 10, 31), none, none, some (15, 0, 15, 13, 0), none, none, some (0, 0, 0, 14, 0), some (19, 1, 0, 14, 0), some (0, 0, 0, 16, 0), some (3, 3, 0, 17, 0), some (1, 3, 0, 18, 0), some (2, 2, 0, 19, 0), some (18, 8, 1, 22, 21), none, none, some (15, 3, 53, 25, 0), none, none, some (2, 0, 0, 26, 0), some (13, 4, 0, 29, 9), none, none, some (1, 3, 0, 30, 0), some (0, 0, 120, 32, 0), none, some (6, 3, 0, 33, 0), some (1, 1, 0, 34, 0), some (6, 0, 0, 35, 0), some (10, 0, 0, 36, 0), some (2, 2, 0, 37, 0), some (1, 3, 0, 38, 0), some (1, 1, 0, 39, 0), some (18, 12, 3, 42, 27), none, none, some (15, 0, 47, 45, 0), none, none, some (0, 0, 0, 46, 0), some (19, 1, 0, 46, 0), some (5, 3, 1, 50, 0), none, none, some (17, 0, 0, 17, 0), none, none, some (0, 0, 1, 54, 0), some (19, 1, 0, 54, 0)]]
/-- Court.bone -/
def qc_t18 : List (List (Option qa_I)) := [[some (1, 1, 0, 1, 0), some (0, 0, -1, 2, 0), some (15, 0, 16, 5, 0), none, none, some (2, 0, 0, 6, 0), some (13, 5, 0, 9, 12), none, none, some (1, 1, 0, 10, 0), some (18, 9, 2, 13, 45), none, none, some (16, 0, 20, 16, 0), none, none, some (0, 0, 1, 17, 0), some (17, 0, 0, 21, 0), none, none, some (0, 0, 0, 21, 0), some (18, 39, 1, 24, 49)]]
/-- Court.key -/
def qc_t19 : List (List (Option qa_I)) := [[some (2, 0, 0, 1, 0), some (13, 5, 0, 4, 12), none, none, some (1, 1, 0, 5, 0), some (1, 2, 0, 6, 0), some (1, 3, 0, 7, 0), some (18, 10, 4, 10, 75), none, none, some (16, 0, 27, 13, 0), none, none, some (1, 5, 0, 15, 0), none, some (0, 0, 0, 16, 0), some (0, 0, 5, 17, 0), some (18, 41, 3, 20, 53), none, none, some (16, 0, 27, 23, 0), none, none, some (0, 0, 1, 24, 0), some (17, 0, 0, 28, 0), none, none, some (0, 0, 0, 28, 0), some (18, 39, 1, 31, 49)]]
/-- Court.unkey -/
def qc_t20 : List (List (Option qa_I)) := [[some (2, 0, 0, 1, 0), some (13, 5, 0, 4, 12), none, none, some (1, 1, 0, 5, 0), some (1, 2, 0, 6, 0), some (1, 3, 0, 7, 0), some (18, 10, 4, 10, 75), none, none, some (18, 39, 1, 13, 49)]]
/-- Court.value -/
def qc_t21 : List (List (Option qa_I)) := [[some (2, 0, 0, 1, 0), some (13, 5, 0, 4, 12), none, none, some (1, 1, 0, 5, 0), some (1, 2, 0, 6, 0), some (1, 3, 0, 7, 0), some (18, 10, 4, 10, 75), none, none, some (18, 39, 1, 13, 49)]]
/-- Court.keyAt -/
def qc_t22 : List (List (Option qa_I)) := [[some (1, 1, 0, 1, 0), some (0, 0, 0, 2, 0), some (2, 0, 0, 3, 0), some (13, 5, 0, 6, 12), none, none, some (18, 11, 1, 9, 86), none, none, some (0, 0, 1, 10, 0), some (6, 2, 0, 11, 0), some (18, 41, 3, 14, 53), none, none, some (18, 39, 1, 17, 49)]]
/-- Court.place -/
def qc_t23 : List (List (Option qa_I)) := [[some (2, 0, 0, 1, 0), some (13, 5, 0, 4, 12), none, none, some (1, 1, 0, 5, 0), some (18, 9, 2, 8, 45), none, none, some (16, 0, 22, 11, 0), none, none, some (1, 2, 0, 12, 0), some (18, 42, 1, 15, 110), none, none, some (16, 0, 22, 18, 0), none, none, some (0, 0, 1, 19, 0), some (17, 0, 0, 23, 0), none, none, some (0, 0, 0, 23, 0), some (18, 39, 1, 26, 49)]]
/-- Court.artists -/
def qc_t24 : List (List (Option qa_I)) := [[some (1, 1, 0, 1, 0), some (18, 42, 1, 4, 110), none, none, some (18, 39, 1, 7, 49), none, none, some (2, 0, 0, 8, 0), some (13, 5, 0, 11, 12), none, none, some (1, 1, 0, 12, 0), some (18, 13, 2, 15, 116), none, none, some (19, 0, 0, 15, 0)]]
/-- Court.cut -/
def qc_t25 : List (List (Option qa_I)) := [[some (1, 1, 0, 1, 0), some (0, 0, 0, 2, 0), some (2, 0, 0, 3, 0), some (13, 5, 2, 6, 26), none, none, some (18, 1, 1, 9, 119), none, none, some (18, 41, 3, 12, 53), none, none, some (16, 0, 33, 15, 0), none, none, some (1, 2, 0, 16, 0), some (18, 42, 1, 19, 110), none, none, some (16, 0, 33, 22, 0), none, none, some (1, 3, 0, 23, 0), some (18, 42, 1, 26, 110), none, none, some (16, 0, 33, 29, 0), none, none, some (0, 0, 1, 30, 0), some (17, 0, 0, 34, 0), none, none, some (0, 0, 0, 34, 0), some (18, 39, 1, 37, 49)]]
/-- Court.uncut -/
def qc_t26 : List (List (Option qa_I)) := [[some (1, 1, 0, 1, 0), some (0, 0, 0, 2, 0), some (2, 0, 0, 3, 0), some (13, 5, 2, 6, 26), none, none, some (18, 1, 1, 9, 119), none, none, some (0, 0, 1, 10, 0), some (6, 2, 0, 11, 0), some (18, 41, 3, 14, 53), none, none, some (18, 39, 1, 17, 49)]]
/-- Court.shown -/
def qc_t27 : List (List (Option qa_I)) := [[some (1, 1, 0, 1, 0), some (0, 0, 0, 2, 0), some (2, 0, 0, 3, 0), some (13, 5, 2, 6, 26), none, none, some (18, 2, 1, 9, 126), none, none, some (0, 0, 1, 10, 0), some (6, 2, 0, 11, 0), some (18, 41, 3, 14, 53), none, none, some (18, 39, 1, 17, 49)]]
/-- Court.state -/
def qc_t28 : List (List (Option qa_I)) := [[some (1, 1, 0, 1, 0), some (18, 42, 1, 4, 110), none, none, some (18, 39, 1, 7, 49), none, none, some (2, 0, 0, 8, 0), some (13, 5, 1, 11, 19), none, none, some (1, 1, 0, 12, 0), some (18, 14, 2, 15, 136), none, none, some (2, 0, 0, 16, 0), some (13, 5, 2, 19, 26), none, none, some (1, 1, 0, 20, 0), some (18, 4, 2, 23, 139), none, none, some (16, 0, 31, 26, 0), none, none, some (0, 0, 10, 28, 0), none, some (17, 0, 0, 32, 0), none, none, some (0, 0, 0, 32, 0), some (6, 0, 0, 33, 0), some (19, 0, 0, 33, 0)]]
/-- Court.voids -/
def qc_t29 : List (List (Option qa_I)) := [[some (2, 0, 0, 1, 0), some (13, 5, 1, 4, 19), none, none, some (18, 15, 1, 7, 89), none, none, some (19, 0, 0, 7, 0)]]
/-- Court.voidsByAll -/
def qc_t30 : List (List (Option qa_I)) := [[some (2, 0, 0, 1, 0), some (13, 5, 1, 4, 19), none, none, some (2, 0, 0, 5, 0), some (13, 5, 0, 8, 12), none, none, some (18, 16, 2, 11, 142), none, none, some (19, 0, 0, 11, 0)]]
/-- Court.machine -/
def qc_t31 : List (List (Option qa_I)) := [[some (1, 1, 0, 1, 0), some (0, 0, 1, 2, 0), some (0, 0, 5, 3, 0), some (18, 41, 3, 6, 53), none, none, some (18, 40, 1, 9, 57)]]
/-- Court.offer -/
def qc_t32 : List (List (Option qa_I)) := [[some (1, 1, 0, 1, 0), some (0, 0, 1, 2, 0), some (0, 0, 100, 4, 0), none, some (18, 41, 3, 7, 53), none, none, some (16, 0, 24, 10, 0), none, none, some (1, 2, 0, 11, 0), some (0, 0, 1, 12, 0), some (0, 0, 50, 14, 0), none, some (18, 41, 3, 17, 53), none, none, some (16, 0, 24, 20, 0), none, none, some (0, 0, 1, 21, 0), some (17, 0, 0, 25, 0), none, none, some (0, 0, 0, 25, 0), some (18, 40, 1, 28, 57)]]
/-- Court.night -/
def qc_t33 : List (List (Option qa_I)) := [[some (1, 1, 0, 1, 0), some (0, 0, 1, 2, 0), some (0, 0, 24, 4, 0), none, some (18, 41, 3, 7, 53), none, none, some (18, 40, 1, 10, 57)]]
/-- Court.heat -/
def qc_t34 : List (List (Option qa_I)) := [[some (1, 1, 0, 1, 0), some (0, 0, 0, 2, 0), some (2, 0, 0, 3, 0), some (13, 5, 3, 6, 33), none, none, some (18, 5, 1, 9, 146), none, none, some (0, 0, 1, 10, 0), some (6, 2, 0, 11, 0), some (18, 41, 3, 14, 53), none, none, some (18, 39, 1, 17, 49)]]
/-- Court.setRate -/
def qc_t35 : List (List (Option qa_I)) := [[some (1, 1, 0, 1, 0), some (0, 0, 0, 2, 0), some (0, 0, 1000, 5, 0), none, none, some (18, 41, 3, 8, 53), none, none, some (18, 40, 1, 11, 57)]]
/-- Court.seconds -/
def qc_t36 : List (List (Option qa_I)) := [[some (1, 1, 0, 1, 0), some (0, 0, 0, 2, 0), some (0, 0, 5, 3, 0), some (18, 41, 3, 6, 53), none, none, some (18, 39, 1, 9, 49), none, none, some (2, 0, 0, 10, 0), some (1, 1, 0, 11, 0), some (18, 38, 2, 14, 165), none, none, some (19, 0, 0, 14, 0)]]
/-- Court.money -/
def qc_t37 : List (List (Option qa_I)) := [[some (1, 1, 0, 1, 0), some (0, 0, 0, 2, 0), some (0, 0, 6, 4, 0), none, some (18, 41, 3, 7, 53), none, none, some (18, 39, 1, 10, 49), none, none, some (1, 1, 0, 11, 0), some (0, 0, 6, 13, 0), none, some (15, 1, 26, 16, 0), none, none, some (2, 0, 0, 17, 0), some (13, 5, 3, 20, 33), none, none, some (18, 6, 1, 23, 172), none, none, some (17, 0, 0, 32, 0), none, none, some (2, 0, 0, 27, 0), some (13, 5, 4, 30, 37), none, none, some (1, 1, 0, 31, 0), some (10, 0, 0, 32, 0), some (19, 0, 0, 32, 0)]]
/-- Court.secondsOf -/
def qc_t38 : List (List (Option qa_I)) := [[some (0, 0, 0, 1, 0), some (3, 2, 0, 2, 0), some (0, 0, 0, 3, 0), some (3, 3, 0, 4, 0), some (1, 3, 0, 5, 0), some (0, 0, 120, 7, 0), none, some (15, 3, 42, 10, 0), none, none, some (2, 0, 0, 11, 0), some (13, 5, 0, 14, 12), none, none, some (1, 3, 0, 15, 0), some (18, 13, 2, 18, 116), none, none, some (0, 0, 1, 19, 0), some (1, 1, 0, 20, 0), some (6, 8, 0, 21, 0), some (6, 6, 0, 22, 0), some (16, 0, 36, 25, 0), none, none, some (1, 2, 0, 26, 0), some (2, 0, 0, 27, 0), some (13, 5, 2, 30, 26), none, none, some (1, 3, 0, 31, 0), some (18, 3, 2, 34, 175), none, none, some (6, 0, 0, 35, 0), some (3, 2, 0, 36, 0), some (5, 3, 1, 39, 0), none, none, some (17, 0, 0, 4, 0), none, none, some (1, 2, 0, 43, 0), some (0, 0, 24, 45, 0), none, some (6, 4, 0, 46, 0), some (19, 0, 0, 46, 0)]]
/-- Court.mustExist -/
def qc_t39 : List (List (Option qa_I)) := [[some (1, 0, 0, 1, 0), some (16, 1, 12, 4, 0), none, none, some (21, 1, 183, 4, 181), none, none, none, none, none, none, none, some (20, 0, 0, 12, 0)]]
/-- Court.mustFit -/
def qc_t40 : List (List (Option qa_I)) := [[some (1, 0, 0, 1, 0), some (16, 1, 12, 4, 0), none, none, some (21, 2, 186, 4, 184), none, none, none, none, none, none, none, some (20, 0, 0, 12, 0)]]
/-- Court.isWithin -/
def qc_t41 : List (List (Option qa_I)) := [[some (1, 0, 0, 1, 0), some (1, 1, 0, 2, 0), some (15, 2, 14, 5, 0), none, none, some (1, 0, 0, 6, 0), some (1, 2, 0, 7, 0), some (15, 4, 14, 10, 0), none, none, some (0, 0, 1, 11, 0), some (17, 0, 0, 15, 0), none, none, some (0, 0, 0, 15, 0), some (19, 1, 0, 15, 0)]]
/-- Court.isFrame -/
def qc_t42 : List (List (Option qa_I)) := [[some (1, 0, 0, 1, 0), some (0, 0, 0, 2, 0), some (0, 0, 119, 4, 0), none, some (18, 41, 3, 7, 53), none, none, some (19, 1, 0, 7, 0)]]
/-- Law.part -/
def qc_t43 : List (List (Option qa_I)) := [[some (1, 1, 0, 1, 0), some (2, 0, 0, 2, 0), some (27, 0, 0, 3, 0), some (15, 3, 12, 6, 0), none, none, some (2, 0, 0, 7, 0), some (1, 1, 0, 8, 0), some (26, 0, 0, 9, 0), some (17, 0, 0, 25, 0), none, none, none, none, none, none, none, none, none, none, none, none, none, none, none, some (3, 3, 0, 26, 0), some (1, 3, 0, 27, 0), some (33, 0, 2147483647, 29, 7), none, some (6, 6, 0, 30, 0), some (1, 2, 0, 31, 0), some (6, 5, 0, 32, 0), some (19, 0, 0, 32, 0)]]
/-- Law.does -/
def qc_t44_0 : List (Option qa_I) := [some (1, 1, 0, 1, 0), some (16, 1, 15, 4, 0), none, none, some (2, 0, 0, 5, 0), some (1, 2, 0, 6, 0), some (1, 3, 0, 7, 0), some (1, 4, 0, 9, 0), none, some (18, 18, 4, 12, 8), none, none, some (17, 0, 0, 142, 0), none, none, some (1, 1, 0, 16, 0), some (0, 0, 1, 17, 0), some (15, 1, 37, 20, 0), none, none, some (2, 0, 0, 21, 0), some (1, 2, 0, 22, 0), some (1, 3, 0, 23, 0), some (1, 4, 0, 25, 0), none, some (1, 5, 0, 27, 0), none, some (1, 6, 0, 29, 0), none, some (1, 7, 0, 31, 0), none, some (18, 19, 7, 34, 14), none, none, some (17, 0, 0, 142, 0), none, none, some (1, 1, 0, 38, 0), some (0, 0, 2, 39, 0), some (15, 1, 53, 42, 0), none, none, some (2, 0, 0, 43, 0), some (1, 2, 0, 44, 0), some (1, 3, 0, 45, 0), some (1, 4, 0, 47, 0), none, some (18, 20, 4, 50, 18), none, none, some (17, 0, 0, 142, 0), none, none, some (1, 1, 0, 54, 0), some (0, 0, 3, 55, 0), some (15, 1, 69, 58, 0), none, none, some (2, 0, 0, 59, 0), some (1, 2, 0, 60, 0), some (1, 3, 0, 61, 0), some (1, 4, 0, 63, 0), none, some (18, 25, 4, 66, 21)]
def qc_t44_1 : List (Option qa_I) := [none, none, some (17, 0, 0, 142, 0), none, none, some (1, 1, 0, 70, 0), some (0, 0, 4, 71, 0), some (15, 1, 82, 74, 0), none, none, some (2, 0, 0, 75, 0), some (1, 2, 0, 76, 0), some (18, 26, 2, 79, 24), none, none, some (17, 0, 0, 142, 0), none, none, some (1, 1, 0, 83, 0), some (0, 0, 5, 84, 0), some (15, 1, 95, 87, 0), none, none, some (2, 0, 0, 88, 0), some (1, 2, 0, 89, 0), some (18, 31, 2, 92, 28), none, none, some (17, 0, 0, 142, 0), none, none, some (1, 1, 0, 96, 0), some (0, 0, 6, 98, 0), none, some (15, 1, 110, 101, 0), none, none, some (2, 0, 0, 102, 0), some (1, 2, 0, 103, 0), some (1, 3, 0, 104, 0), some (18, 32, 3, 107, 31), none, none, some (17, 0, 0, 142, 0), none, none, some (1, 1, 0, 111, 0), some (0, 0, 7, 113, 0), none, some (15, 1, 124, 116, 0), none, none, some (2, 0, 0, 117, 0), some (1, 2, 0, 118, 0), some (18, 33, 2, 121, 35), none, none, some (17, 0, 0, 142, 0), none, none, some (1, 1, 0, 125, 0), some (0, 0, 8, 127, 0), none, some (15, 1, 138, 130, 0)]
def qc_t44_2 : List (Option qa_I) := [none, none, some (2, 0, 0, 131, 0), some (1, 2, 0, 132, 0), some (18, 35, 2, 135, 38), none, none, some (17, 0, 0, 142, 0), none, none, none, none, none, none, none, some (4, 8, 0, 145, 0), none, some (0, 0, -3000, 148, 0), none, none, some (19, 0, 0, 148, 0), some (4, 8, 0, 151, 0), none, some (0, 0, -2000, 154, 0), none, none, some (19, 0, 0, 154, 0)]
def qc_t44 : List (List (Option qa_I)) := [qc_t44_0, qc_t44_1, qc_t44_2]
/-- Law.asks -/
def qc_t45_0 : List (Option qa_I) := [some (1, 1, 0, 1, 0), some (16, 1, 15, 4, 0), none, none, some (2, 0, 0, 5, 0), some (1, 2, 0, 6, 0), some (1, 3, 0, 7, 0), some (1, 4, 0, 9, 0), none, some (18, 21, 4, 12, 51), none, none, some (17, 0, 0, 131, 0), none, none, some (1, 1, 0, 16, 0), some (0, 0, 1, 17, 0), some (15, 1, 31, 20, 0), none, none, none, none, none, none, none, none, none, none, none, none, none, some (1, 1, 0, 32, 0), some (0, 0, 2, 33, 0), some (15, 1, 44, 36, 0), none, none, some (2, 0, 0, 37, 0), some (1, 2, 0, 38, 0), some (18, 22, 2, 41, 57), none, none, some (17, 0, 0, 131, 0), none, none, some (1, 1, 0, 45, 0), some (0, 0, 3, 46, 0), some (15, 1, 58, 49, 0), none, none, some (2, 0, 0, 50, 0), some (1, 2, 0, 51, 0), some (1, 3, 0, 52, 0), some (18, 23, 3, 55, 60), none, none, some (17, 0, 0, 131, 0), none, none, some (1, 1, 0, 59, 0), some (0, 0, 4, 60, 0), some (15, 1, 71, 63, 0), none, none, some (2, 0, 0, 64, 0)]
def qc_t45_1 : List (Option qa_I) := [some (1, 2, 0, 65, 0), some (18, 24, 2, 68, 63), none, none, some (17, 0, 0, 131, 0), none, none, some (1, 1, 0, 72, 0), some (0, 0, 5, 73, 0), some (15, 1, 84, 76, 0), none, none, some (2, 0, 0, 77, 0), some (1, 2, 0, 78, 0), some (18, 27, 2, 81, 66), none, none, some (17, 0, 0, 131, 0), none, none, some (1, 1, 0, 85, 0), some (0, 0, 6, 87, 0), none, some (15, 1, 98, 90, 0), none, none, some (2, 0, 0, 91, 0), some (1, 2, 0, 92, 0), some (18, 28, 2, 95, 69), none, none, some (17, 0, 0, 131, 0), none, none, some (1, 1, 0, 99, 0), some (0, 0, 7, 101, 0), none, some (15, 1, 112, 104, 0), none, none, some (2, 0, 0, 105, 0), some (1, 2, 0, 106, 0), some (18, 34, 2, 109, 72), none, none, some (17, 0, 0, 131, 0), none, none, some (1, 1, 0, 113, 0), some (0, 0, 8, 115, 0), none, some (15, 1, 126, 118, 0), none, none, some (2, 0, 0, 119, 0), some (1, 2, 0, 120, 0), some (18, 36, 2, 123, 75), none, none, some (17, 0, 0, 131, 0), none, none, some (2, 0, 0, 127, 0), some (1, 2, 0, 128, 0)]
def qc_t45_2 : List (Option qa_I) := [some (18, 37, 2, 131, 78), none, none, some (19, 0, 0, 131, 0), some (4, 5, 0, 134, 0), none, some (0, 0, -3000, 137, 0), none, none, some (19, 0, 0, 137, 0)]
def qc_t45 : List (List (Option qa_I)) := [qc_t45_0, qc_t45_1, qc_t45_2]
/-- Law.made -/
def qc_t46 : List (List (Option qa_I)) := [[some (1, 2, 0, 1, 0), some (0, 0, 60, 3, 0), none, some (15, 3, 12, 6, 0), none, none, some (2, 0, 0, 7, 0), some (1, 2, 0, 8, 0), some (24, 0, 0, 9, 0), some (17, 0, 0, 18, 0), none, none, some (2, 1, 0, 13, 0), some (1, 2, 0, 14, 0), some (0, 0, 60, 16, 0), none, some (6, 2, 0, 17, 0), some (24, 0, 0, 18, 0), some (32, 0, 0, 18, 0)]]
/-- Law.isNeeded -/
def qc_t47 : List (List (Option qa_I)) := [[some (0, 0, 0, 1, 0), some (3, 3, 0, 2, 0), some (0, 0, 0, 3, 0), some (3, 4, 0, 5, 0), none, some (1, 4, 0, 7, 0), none, some (2, 1, 0, 8, 0), some (0, 0, 2, 9, 0), some (10, 0, 0, 10, 0), some (15, 3, 48, 13, 0), none, none, none, none, none, none, none, none, none, none, none, none, none, none, none, none, none, none, none, none, none, none, none, none, none, none, none, none, none, none, none, none, none, none, none, none, none, some (1, 3, 0, 49, 0), some (19, 1, 0, 49, 0)]]
/-- Law.artists -/
def qc_t48_0 : List (Option qa_I) := [some (0, 0, 0, 1, 0), some (3, 4, 0, 3, 0), none, some (0, 0, 0, 4, 0), some (3, 5, 0, 6, 0), none, some (1, 5, 0, 8, 0), none, some (0, 0, 3, 9, 0), some (2, 2, 0, 10, 0), some (0, 0, 0, 11, 0), some (10, 0, 0, 12, 0), some (6, 3, 0, 13, 0), some (15, 3, 115, 16, 0), none, none, none, none, none, none, none, none, none, none, none, none, none, none, none, none, none, none, none, none, none, none, none, none, none, none, none, none, none, none, none, none, none, none, none, none, none, none, none, none, none, none, none, none, none, none, none, none, none, none]
def qc_t48_1 : List (Option qa_I) := [none, none, none, none, none, none, none, none, none, none, none, none, none, none, none, none, none, none, none, none, none, none, none, none, none, none, none, none, none, none, none, none, none, none, none, none, none, none, none, none, none, none, none, none, none, none, none, none, none, none, none, some (1, 4, 0, 117, 0), none, some (19, 0, 0, 117, 0)]
def qc_t48 : List (List (Option qa_I)) := [qc_t48_0, qc_t48_1]
/-- Law.seconds -/
def qc_t49_0 : List (Option qa_I) := [some (0, 0, 0, 1, 0), some (3, 5, 0, 3, 0), none, some (0, 0, 0, 4, 0), some (3, 6, 0, 6, 0), none, some (1, 6, 0, 8, 0), none, some (2, 3, 0, 9, 0), some (0, 0, 2, 10, 0), some (10, 0, 0, 11, 0), some (15, 3, 62, 14, 0), none, none, none, none, none, none, none, none, none, none, none, none, none, none, none, none, none, none, none, none, none, none, none, none, none, none, none, none, none, none, none, none, none, none, none, none, none, none, none, none, none, none, none, none, none, none, none, none, none, none, some (1, 5, 0, 64, 0), none]
def qc_t49_1 : List (Option qa_I) := [some (0, 0, 24, 66, 0), none, some (6, 4, 0, 67, 0), some (19, 0, 0, 67, 0)]
def qc_t49 : List (List (Option qa_I)) := [qc_t49_0, qc_t49_1]
/-- Law.length -/
def qc_t50 : List (List (Option qa_I)) := [[some (0, 0, 0, 1, 0), some (3, 2, 0, 2, 0), some (0, 0, 0, 3, 0), some (3, 3, 0, 4, 0), some (1, 3, 0, 5, 0), some (2, 1, 0, 6, 0), some (0, 0, 2, 7, 0), some (10, 0, 0, 8, 0), some (15, 3, 32, 11, 0), none, none, none, none, none, none, none, none, none, none, none, none, none, none, none, none, none, none, none, none, none, none, none, some (1, 2, 0, 33, 0), some (19, 0, 0, 33, 0)]]
/-- Law.areKeys -/
def qc_t51_0 : List (Option qa_I) := [some (2, 0, 0, 1, 0), some (0, 0, 0, 2, 0), some (2, 5, 0, 4, 0), none, some (0, 0, 0, 5, 0), some (10, 0, 0, 6, 0), some (0, 0, 0, 7, 0), some (0, 0, 0, 8, 0), some (18, 45, 5, 11, 108), none, none, some (0, 0, -3000, 14, 0), none, none, some (15, 1, 110, 17, 0), none, none, some (2, 0, 0, 18, 0), some (0, 0, 0, 19, 0), some (0, 0, 0, 20, 0), some (0, 0, 3, 21, 0), some (0, 0, 0, 22, 0), some (18, 45, 5, 25, 108), none, none, some (0, 0, -3000, 28, 0), none, none, some (15, 1, 110, 31, 0), none, none, some (2, 0, 0, 32, 0), some (0, 0, 0, 33, 0), some (0, 0, 0, 34, 0), some (0, 0, 0, 35, 0), some (0, 0, 120, 37, 0), none, some (18, 45, 5, 40, 108), none, none, some (0, 0, -3000, 43, 0), none, none, some (15, 1, 110, 46, 0), none, none, some (2, 0, 0, 47, 0), some (0, 0, 2, 48, 0), some (2, 5, 0, 50, 0), none, some (0, 0, 1, 51, 0), some (10, 0, 0, 52, 0), some (0, 0, 0, 53, 0), some (0, 0, 0, 54, 0), some (18, 45, 5, 57, 108), none, none, some (0, 0, -3000, 60, 0), none, none, some (15, 1, 110, 63, 0), none, none, some (2, 0, 0, 64, 0)]
def qc_t51_1 : List (Option qa_I) := [some (0, 0, 2, 65, 0), some (0, 0, -1, 66, 0), some (0, 0, 0, 67, 0), some (0, 0, 0, 68, 0), some (18, 45, 5, 71, 108), none, none, some (0, 0, -3000, 74, 0), none, none, some (15, 1, 110, 77, 0), none, none, some (2, 0, 0, 78, 0), some (0, 0, 3, 79, 0), some (0, 0, -1, 80, 0), some (0, 0, 0, 81, 0), some (0, 0, 0, 82, 0), some (18, 45, 5, 85, 108), none, none, some (0, 0, -3000, 88, 0), none, none, some (15, 1, 110, 91, 0), none, none, some (2, 0, 0, 92, 0), some (0, 0, 4, 93, 0), some (0, 0, 120, 95, 0), none, some (0, 0, 0, 96, 0), some (0, 0, 0, 97, 0), some (18, 45, 5, 100, 108), none, none, some (0, 0, -3000, 103, 0), none, none, some (15, 1, 110, 106, 0), none, none, some (0, 0, 1, 107, 0), some (17, 0, 0, 111, 0), none, none, some (0, 0, 0, 111, 0), some (3, 7, 0, 113, 0), none, some (0, 0, 0, 114, 0), some (3, 8, 0, 116, 0), none, some (1, 8, 0, 118, 0), none, some (0, 0, 3, 119, 0), some (2, 5, 0, 121, 0), none, some (0, 0, 0, 122, 0), some (10, 0, 0, 123, 0), some (6, 3, 0, 124, 0), some (15, 3, 174, 127, 0), none, none, none]
def qc_t51_2 : List (Option qa_I) := [none, none, none, none, none, none, none, none, none, none, none, none, none, none, none, none, none, none, none, none, none, none, none, none, none, none, none, none, none, none, none, none, none, none, none, none, none, none, none, none, none, none, none, none, none, none, some (0, 0, 0, 175, 0), some (3, 8, 0, 177, 0), none, some (1, 8, 0, 179, 0), none, some (2, 5, 0, 181, 0), none, some (0, 0, 0, 182, 0), some (10, 0, 0, 183, 0), some (15, 3, 229, 186, 0), none, none, none, none, none, none, none, none]
def qc_t51_3 : List (Option qa_I) := [none, none, none, none, none, none, none, none, none, none, none, none, none, none, none, none, none, none, none, none, none, none, none, none, none, none, none, none, none, none, none, none, none, none, none, none, none, some (0, 0, 0, 230, 0), some (3, 8, 0, 232, 0), none, some (1, 8, 0, 234, 0), none, some (2, 5, 0, 236, 0), none, some (0, 0, 1, 237, 0), some (10, 0, 0, 238, 0), some (15, 3, 446, 241, 0), none, none, none, none, none, none, none, none, none, none, none, none, none, none, none, none, none]
def qc_t51_4 : List (Option qa_I) := [none, none, none, none, none, none, none, none, none, none, none, none, none, none, none, none, none, none, none, none, none, none, none, none, none, none, none, none, none, none, none, none, none, none, none, none, none, none, none, none, none, none, none, none, none, none, none, none, none, none, none, none, none, none, none, none, none, none, none, none, none, none, none, none]
def qc_t51_5 : List (Option qa_I) := [none, none, none, none, none, none, none, none, none, none, none, none, none, none, none, none, none, none, none, none, none, none, none, none, none, none, none, none, none, none, none, none, none, none, none, none, none, none, none, none, none, none, none, none, none, none, none, none, none, none, none, none, none, none, none, none, none, none, none, none, none, none, none, none]
def qc_t51_6 : List (Option qa_I) := [none, none, none, none, none, none, none, none, none, none, none, none, none, none, none, none, none, none, none, none, none, none, none, none, none, none, none, none, none, none, none, none, none, none, none, none, none, none, none, none, none, none, none, none, none, none, none, none, none, none, none, none, none, none, none, none, none, none, none, none, none, none, some (1, 7, 0, 448, 0), none]
def qc_t51_7 : List (Option qa_I) := [some (16, 0, 473, 451, 0), none, none, some (2, 0, 0, 452, 0), some (1, 6, 0, 454, 0), none, some (18, 24, 2, 457, 63), none, none, some (2, 1, 0, 458, 0), some (2, 3, 0, 459, 0), some (2, 5, 0, 461, 0), none, some (1, 6, 0, 463, 0), none, some (18, 48, 4, 466, 105), none, none, some (15, 1, 473, 469, 0), none, none, some (0, 0, 1, 470, 0), some (17, 0, 0, 474, 0), none, none, some (0, 0, 0, 474, 0), some (19, 1, 0, 474, 0)]
def qc_t51 : List (List (Option qa_I)) := [qc_t51_0, qc_t51_1, qc_t51_2, qc_t51_3, qc_t51_4, qc_t51_5, qc_t51_6, qc_t51_7]
/-- Law.areFrames -/
def qc_t52_0 : List (Option qa_I) := [some (0, 0, 0, 1, 0), some (3, 9, 0, 3, 0), none, some (2, 0, 0, 4, 0), some (0, 0, 6, 6, 0), none, some (0, 0, 120, 8, 0), none, some (0, 0, 0, 9, 0), some (0, 0, 0, 10, 0), some (18, 45, 5, 13, 108), none, none, some (0, 0, -3000, 16, 0), none, none, some (15, 1, 38, 19, 0), none, none, some (2, 0, 0, 20, 0), some (0, 0, 6, 22, 0), none, some (0, 0, -1, 23, 0), some (0, 0, 0, 24, 0), some (0, 0, 0, 25, 0), some (18, 45, 5, 28, 108), none, none, some (0, 0, -3000, 31, 0), none, none, some (15, 1, 38, 34, 0), none, none, some (0, 0, 1, 35, 0), some (17, 0, 0, 39, 0), none, none, some (0, 0, 0, 39, 0), some (3, 10, 0, 41, 0), none, some (0, 0, 0, 42, 0), some (3, 11, 0, 44, 0), none, some (1, 11, 0, 46, 0), none, some (0, 0, 120, 48, 0), none, some (15, 3, 181, 51, 0), none, none, some (1, 10, 0, 53, 0), none, some (16, 0, 181, 56, 0), none, none, some (2, 6, 0, 58, 0), none, some (2, 7, 0, 60, 0), none, some (1, 11, 0, 62, 0), none, some (18, 46, 3, 65, 97), none]
def qc_t52_1 : List (Option qa_I) := [none, some (29, 12, 0, 67, 0), none, some (30, 12, 0, 69, 0), none, some (31, 0, 0, 70, 0), some (25, 0, 0, 71, 0), some (16, 2, 94, 74, 0), none, none, none, none, none, none, none, none, none, none, none, none, none, none, none, none, none, none, none, none, none, none, some (0, 0, 0, 95, 0), some (3, 14, 0, 97, 0), none, some (1, 9, 0, 99, 0), none, some (30, 12, 0, 101, 0), none, some (31, 0, 0, 102, 0), some (25, 0, 0, 103, 0), some (16, 2, 115, 106, 0), none, none, some (1, 14, 0, 108, 0), none, some (16, 1, 115, 111, 0), none, none, some (0, 0, 1, 112, 0), some (17, 0, 0, 116, 0), none, none, some (0, 0, 0, 116, 0), some (6, 0, 0, 117, 0), some (3, 9, 0, 119, 0), none, some (2, 0, 0, 120, 0), some (1, 11, 0, 122, 0), none, some (18, 28, 2, 125, 69), none, none, some (30, 12, 0, 127, 0), none, some (31, 0, 0, 128, 0)]
def qc_t52_2 : List (Option qa_I) := [some (25, 0, 0, 129, 0), some (16, 3, 136, 132, 0), none, none, some (0, 0, 0, 133, 0), some (17, 0, 0, 146, 0), none, none, some (1, 14, 0, 138, 0), none, some (16, 0, 145, 141, 0), none, none, some (0, 0, 1, 142, 0), some (17, 0, 0, 146, 0), none, none, some (0, 0, 2, 146, 0), some (2, 4, 0, 148, 0), none, some (2, 5, 0, 150, 0), none, some (1, 11, 0, 152, 0), none, some (18, 47, 3, 155, 115), none, none, some (16, 0, 163, 158, 0), none, none, some (0, 0, 10, 160, 0), none, some (17, 0, 0, 164, 0), none, none, some (0, 0, 0, 164, 0), some (6, 0, 0, 165, 0), some (15, 1, 172, 168, 0), none, none, some (0, 0, 1, 169, 0), some (17, 0, 0, 173, 0), none, none, some (0, 0, 0, 173, 0), some (3, 10, 0, 175, 0), none, some (5, 11, 1, 178, 0), none, none, some (17, 0, 0, 44, 0), none, none, some (2, 4, 0, 183, 0), none, some (2, 5, 0, 185, 0), none, some (18, 50, 2, 188, 119), none, none, some (3, 11, 0, 190, 0), none, some (1, 11, 0, 192, 0), none]
def qc_t52_3 : List (Option qa_I) := [some (16, 1, 199, 195, 0), none, none, some (0, 0, 0, 196, 0), some (17, 0, 0, 204, 0), none, none, none, none, none, none, none, some (3, 12, 0, 206, 0), none, some (0, 0, 0, 207, 0), some (3, 13, 0, 209, 0), none, some (1, 13, 0, 211, 0), none, some (2, 5, 0, 213, 0), none, some (0, 0, 2, 214, 0), some (10, 0, 0, 215, 0), some (15, 3, 264, 218, 0), none, none, none, none, none, none, none, none, none, none, none, none, none, none, none, none, none, none, none, none, none, none, none, none, none, none, none, none, none, none, none, none, none, none, none, none, none, none, none, none]
def qc_t52_4 : List (Option qa_I) := [none, none, none, none, none, none, none, none, some (1, 10, 0, 266, 0), none, some (16, 0, 345, 269, 0), none, none, some (2, 0, 0, 270, 0), some (18, 29, 1, 273, 123), none, none, some (1, 9, 0, 275, 0), none, some (15, 1, 345, 278, 0), none, none, some (2, 0, 0, 279, 0), some (18, 30, 1, 282, 126), none, none, some (1, 9, 0, 284, 0), none, some (15, 1, 345, 287, 0), none, none, some (2, 0, 0, 288, 0), some (0, 0, 5, 289, 0), some (1, 11, 0, 291, 0), none, some (0, 0, 0, 292, 0), some (0, 0, 0, 293, 0), some (18, 45, 5, 296, 108), none, none, some (0, 0, -3000, 299, 0), none, none, some (15, 1, 345, 302, 0), none, none, some (2, 0, 0, 303, 0), some (0, 0, 5, 304, 0), some (0, 0, -1, 305, 0), some (0, 0, 0, 306, 0), some (0, 0, 0, 307, 0), some (18, 45, 5, 310, 108), none, none, some (0, 0, -3000, 313, 0), none, none, some (15, 1, 345, 316, 0), none, none, some (1, 11, 0, 318, 0), none, some (16, 0, 341, 321, 0), none]
def qc_t52_5 : List (Option qa_I) := [none, none, none, none, none, none, none, none, none, none, none, none, none, none, none, none, none, none, none, none, none, some (0, 0, 1, 342, 0), some (17, 0, 0, 346, 0), none, none, some (0, 0, 0, 346, 0), some (19, 1, 0, 346, 0)]
def qc_t52 : List (List (Option qa_I)) := [qc_t52_0, qc_t52_1, qc_t52_2, qc_t52_3, qc_t52_4, qc_t52_5]
/-- Law.areMachines -/
def qc_t53_0 : List (Option qa_I) := [some (2, 0, 0, 1, 0), some (0, 0, 7, 3, 0), none, some (2, 2, 0, 4, 0), some (0, 0, 3, 5, 0), some (10, 0, 0, 6, 0), some (0, 0, 0, 7, 0), some (0, 0, 0, 8, 0), some (18, 45, 5, 11, 108), none, none, some (0, 0, -3000, 14, 0), none, none, some (15, 1, 53, 17, 0), none, none, some (2, 0, 0, 18, 0), some (0, 0, 9, 20, 0), none, some (0, 0, 7, 22, 0), none, some (0, 0, 0, 23, 0), some (0, 0, 0, 24, 0), some (18, 45, 5, 27, 108), none, none, some (0, 0, -3000, 30, 0), none, none, some (15, 1, 53, 33, 0), none, none, some (2, 0, 0, 34, 0), some (0, 0, 8, 36, 0), none, some (0, 0, 6, 38, 0), none, some (0, 0, 0, 39, 0), some (0, 0, 0, 40, 0), some (18, 45, 5, 43, 108), none, none, some (0, 0, -3000, 46, 0), none, none, some (15, 1, 53, 49, 0), none, none, some (0, 0, 1, 50, 0), some (17, 0, 0, 54, 0), none, none, some (0, 0, 0, 54, 0), some (3, 3, 0, 55, 0), some (0, 0, 0, 56, 0), some (3, 4, 0, 58, 0), none, some (1, 4, 0, 60, 0), none, some (2, 2, 0, 61, 0), some (0, 0, 3, 62, 0), some (10, 0, 0, 63, 0), some (15, 3, 108, 66, 0)]
def qc_t53_1 : List (Option qa_I) := [none, none, none, none, none, none, none, none, none, none, none, none, none, none, none, none, none, none, none, none, none, none, none, none, none, none, none, none, none, none, none, none, none, none, none, none, none, none, none, none, none, none, none, none, some (0, 0, 0, 109, 0), some (3, 4, 0, 111, 0), none, some (1, 4, 0, 113, 0), none, some (0, 0, 7, 115, 0), none, some (15, 3, 150, 118, 0), none, none, some (1, 3, 0, 119, 0), some (16, 0, 150, 122, 0), none, none, some (2, 0, 0, 123, 0), some (1, 4, 0, 125, 0), none, some (18, 37, 2, 128, 78), none, none]
def qc_t53_2 : List (Option qa_I) := [some (2, 2, 0, 129, 0), some (0, 0, 6, 131, 0), none, some (1, 4, 0, 133, 0), none, some (6, 0, 0, 134, 0), some (10, 0, 0, 135, 0), some (15, 1, 142, 138, 0), none, none, some (0, 0, 1, 139, 0), some (17, 0, 0, 143, 0), none, none, some (0, 0, 0, 143, 0), some (3, 3, 0, 144, 0), some (5, 4, 1, 147, 0), none, none, some (17, 0, 0, 111, 0), none, none, some (1, 3, 0, 151, 0), some (19, 1, 0, 151, 0)]
def qc_t53 : List (List (Option qa_I)) := [qc_t53_0, qc_t53_1, qc_t53_2]
/-- Law.isDone -/
def qc_t54_0 : List (Option qa_I) := [some (2, 1, 0, 1, 0), some (1, 2, 0, 2, 0), some (0, 0, 40, 4, 0), none, some (18, 43, 3, 7, 143), none, none, some (3, 13, 0, 9, 0), none, some (2, 1, 0, 10, 0), some (1, 2, 0, 11, 0), some (0, 0, 1, 12, 0), some (6, 0, 0, 13, 0), some (0, 0, 6000, 16, 0), none, none, some (18, 43, 3, 19, 143), none, none, some (3, 14, 0, 21, 0), none, some (2, 1, 0, 22, 0), some (1, 2, 0, 23, 0), some (0, 0, 2, 24, 0), some (6, 0, 0, 25, 0), some (0, 0, 7000, 28, 0), none, none, some (18, 43, 3, 31, 143), none, none, some (3, 15, 0, 33, 0), none, some (2, 1, 0, 34, 0), some (1, 2, 0, 35, 0), some (0, 0, 3, 36, 0), some (6, 0, 0, 37, 0), some (0, 0, 8000, 40, 0), none, none, some (18, 43, 3, 43, 143), none, none, some (3, 16, 0, 45, 0), none, some (1, 15, 0, 47, 0), none, some (0, 0, 40, 49, 0), none, some (6, 5, 0, 50, 0), some (16, 1, 58, 53, 0), none, none, some (0, 0, 120, 55, 0), none, some (17, 0, 0, 82, 0), none, none, none, none, none, none, none, none]
def qc_t54_1 : List (Option qa_I) := [none, none, none, none, none, none, none, none, none, none, none, none, none, none, none, none, none, none, some (3, 17, 0, 84, 0), none, some (1, 13, 0, 86, 0), none, some (0, 0, 3, 87, 0), some (15, 3, 296, 90, 0), none, none, none, none, none, none, none, none, none, none, none, none, none, none, none, none, none, none, none, none, none, none, none, none, none, none, none, none, none, none, none, none, none, none, none, none, none, none, none, none]
def qc_t54_2 : List (Option qa_I) := [none, none, none, none, none, none, none, none, none, none, none, none, none, none, none, none, none, none, none, none, none, none, none, none, none, none, none, none, none, none, none, none, none, none, none, none, none, none, none, none, none, none, none, none, none, none, none, none, none, none, none, none, none, none, none, none, none, none, none, none, none, none, none, none]
def qc_t54_3 : List (Option qa_I) := [none, none, none, none, none, none, none, none, none, none, none, none, none, none, none, none, none, none, none, none, none, none, none, none, none, none, none, none, none, none, none, none, none, none, none, none, none, none, none, none, none, none, none, none, none, none, none, none, none, none, none, none, none, none, none, none, none, none, none, none, none, none, none, none]
def qc_t54_4 : List (Option qa_I) := [none, none, none, none, none, none, none, none, none, none, none, none, none, none, none, none, none, none, none, none, none, none, none, none, none, none, none, none, none, none, none, none, none, none, none, none, none, none, none, none, some (1, 13, 0, 298, 0), none, some (0, 0, 18, 300, 0), none, some (15, 3, 475, 303, 0), none, none, none, none, none, none, none, none, none, none, none, none, none, none, none, none, none, none, none]
def qc_t54_5 : List (Option qa_I) := [none, none, none, none, none, none, none, none, none, none, none, none, none, none, none, none, none, none, none, none, none, none, none, none, none, none, none, none, none, none, none, none, none, none, none, none, none, none, none, none, none, none, none, none, none, none, none, none, none, none, none, none, none, none, none, none, none, none, none, none, none, none, none, none]
def qc_t54_6 : List (Option qa_I) := [none, none, none, none, none, none, none, none, none, none, none, none, none, none, none, none, none, none, none, none, none, none, none, none, none, none, none, none, none, none, none, none, none, none, none, none, none, none, none, none, none, none, none, none, none, none, none, none, none, none, none, none, none, none, none, none, none, none, none, none, none, none, none, none]
def qc_t54_7 : List (Option qa_I) := [none, none, none, none, none, none, none, none, none, none, none, none, none, none, none, none, none, none, none, none, none, none, none, none, none, none, none, some (1, 13, 0, 477, 0), none, some (0, 0, 21, 479, 0), none, some (15, 3, 530, 482, 0), none, none, none, none, none, none, none, none, none, none, none, none, none, none, none, none, none, none, none, none, none, none, none, none, none, none, none, none, none, none, none, none]
def qc_t54_8 : List (Option qa_I) := [none, none, none, none, none, none, none, none, none, none, none, none, none, none, none, none, none, none, some (1, 13, 0, 532, 0), none, some (0, 0, 26, 534, 0), none, some (15, 3, 783, 537, 0), none, none, none, none, none, none, none, none, none, none, none, none, none, none, none, none, none, none, none, none, none, none, none, none, none, none, none, none, none, none, none, none, none, none, none, none, none, none, none, none, none]
def qc_t54_9 : List (Option qa_I) := [none, none, none, none, none, none, none, none, none, none, none, none, none, none, none, none, none, none, none, none, none, none, none, none, none, none, none, none, none, none, none, none, none, none, none, none, none, none, none, none, none, none, none, none, none, none, none, none, none, none, none, none, none, none, none, none, none, none, none, none, none, none, none, none]
def qc_t54_10 : List (Option qa_I) := [none, none, none, none, none, none, none, none, none, none, none, none, none, none, none, none, none, none, none, none, none, none, none, none, none, none, none, none, none, none, none, none, none, none, none, none, none, none, none, none, none, none, none, none, none, none, none, none, none, none, none, none, none, none, none, none, none, none, none, none, none, none, none, none]
def qc_t54_11 : List (Option qa_I) := [none, none, none, none, none, none, none, none, none, none, none, none, none, none, none, none, none, none, none, none, none, none, none, none, none, none, none, none, none, none, none, none, none, none, none, none, none, none, none, none, none, none, none, none, none, none, none, none, none, none, none, none, none, none, none, none, none, none, none, none, none, none, none, none]
def qc_t54_12 : List (Option qa_I) := [none, none, none, none, none, none, none, none, none, none, none, none, none, none, none, some (1, 13, 0, 785, 0), none, some (0, 0, 28, 787, 0), none, some (15, 3, 916, 790, 0), none, none, none, none, none, none, none, none, none, none, none, none, none, none, none, none, none, none, none, none, none, none, none, none, none, none, none, none, none, none, none, none, none, none, none, none, none, none, none, none, none, none, none, none]
def qc_t54_13 : List (Option qa_I) := [none, none, none, none, none, none, none, none, none, none, none, none, none, none, none, none, none, none, none, none, none, none, none, none, none, none, none, none, none, none, none, none, none, none, none, none, none, none, none, none, none, none, none, none, none, none, none, none, none, none, none, none, none, none, none, none, none, none, none, none, none, none, none, none]
def qc_t54_14 : List (Option qa_I) := [none, none, none, none, none, none, none, none, none, none, none, none, none, none, none, none, none, none, none, none, some (1, 13, 0, 918, 0), none, some (0, 0, 30, 920, 0), none, some (15, 3, 1011, 923, 0), none, none, some (1, 14, 0, 925, 0), none, some (0, 0, 7, 927, 0), none, some (6, 5, 0, 928, 0), some (3, 18, 0, 930, 0), none, some (1, 18, 0, 932, 0), none, some (16, 0, 942, 935, 0), none, none, none, none, none, none, none, none, none, some (0, 0, -2000, 945, 0), none, none, some (17, 0, 0, 966, 0), none, none, none, none, none, none, none, none, none, none, none, none, none, none]
def qc_t54_15 : List (Option qa_I) := [none, none, none, none, none, none, some (3, 19, 0, 968, 0), none, some (1, 19, 0, 970, 0), none, some (16, 2, 988, 973, 0), none, none, none, none, none, none, none, none, none, none, none, none, none, none, none, none, none, some (2, 0, 0, 989, 0), some (0, 0, 5, 990, 0), some (1, 18, 0, 992, 0), none, some (0, 0, 0, 993, 0), some (0, 0, 0, 994, 0), some (0, 0, 0, 995, 0), some (0, 0, 0, 996, 0), some (0, 0, 0, 997, 0), some (18, 44, 8, 1000, 129), none, none, some (1, 19, 0, 1002, 0), none, some (15, 1, 1009, 1005, 0), none, none, some (0, 0, 1, 1006, 0), some (17, 0, 0, 1010, 0), none, none, none, some (19, 1, 0, 1010, 0)]
def qc_t54 : List (List (Option qa_I)) := [qc_t54_0, qc_t54_1, qc_t54_2, qc_t54_3, qc_t54_4, qc_t54_5, qc_t54_6, qc_t54_7, qc_t54_8, qc_t54_9, qc_t54_10, qc_t54_11, qc_t54_12, qc_t54_13, qc_t54_14, qc_t54_15]
/-- Law.law -/
def qc_t55_0 : List (Option qa_I) := [none, none, none, none, none, none, none, none, none, none, none, none, none, none, none, none, none, none, none, none, none, none, none, none, none, none, none, none, none, none, none, none, none, none, none, none, none, none, none, none, none, none, none, none, none, none, none, none, none, none, none, none, none, none, none, none, none, none, none, none, none, none, none, none]
def qc_t55_1 : List (Option qa_I) := [none, none, none, none, none, none, none, none, none, none, none, none, none, none, none, none, none, none, none, none, none, none, none, none, none, none, none, none, none, none, none, none, none, none, some (2, 1, 0, 99, 0), some (2, 2, 0, 100, 0), some (2, 3, 0, 101, 0), some (2, 4, 0, 103, 0), none, some (2, 5, 0, 105, 0), none, some (2, 9, 0, 107, 0), none, some (0, 0, 0, 108, 0), some (18, 51, 7, 111, 166), none, none, some (16, 0, 149, 114, 0), none, none, some (2, 1, 0, 115, 0), some (2, 2, 0, 116, 0), some (2, 3, 0, 117, 0), some (2, 4, 0, 119, 0), none, some (2, 6, 0, 121, 0), none, some (2, 9, 0, 123, 0), none, some (2, 10, 0, 125, 0), none, some (2, 11, 0, 127, 0), none, some (0, 0, 0, 128, 0)]
def qc_t55_2 : List (Option qa_I) := [some (18, 52, 9, 131, 170), none, none, some (16, 0, 149, 134, 0), none, none, some (2, 1, 0, 135, 0), some (2, 7, 0, 137, 0), none, some (2, 9, 0, 139, 0), none, some (18, 53, 3, 142, 174), none, none, some (16, 0, 149, 145, 0), none, none, some (0, 0, 1, 146, 0), some (17, 0, 0, 150, 0), none, none, some (0, 0, 0, 150, 0), some (3, 12, 0, 152, 0), none, some (0, 0, 0, 153, 0), some (3, 13, 0, 155, 0), none, some (1, 13, 0, 157, 0), none, some (0, 0, 54, 159, 0), none, some (15, 3, 315, 162, 0), none, none, some (1, 12, 0, 164, 0), none, some (16, 0, 315, 167, 0), none, none, some (2, 0, 0, 168, 0), some (0, 0, 4, 169, 0), some (1, 13, 0, 171, 0), none, some (6, 3, 0, 172, 0), some (0, 0, 1, 173, 0), some (6, 0, 0, 174, 0), some (0, 0, 6, 176, 0), none, some (18, 43, 3, 179, 143), none, none, some (3, 14, 0, 181, 0), none, some (2, 1, 0, 182, 0), some (2, 0, 0, 183, 0), some (0, 0, 4, 184, 0), some (1, 13, 0, 186, 0), none, some (6, 3, 0, 187, 0), some (2, 2, 0, 188, 0), some (2, 3, 0, 189, 0), some (2, 4, 0, 191, 0), none, some (2, 5, 0, 193, 0)]
def qc_t55_3 : List (Option qa_I) := [none, some (2, 6, 0, 195, 0), none, some (2, 7, 0, 197, 0), none, some (2, 8, 0, 199, 0), none, some (2, 9, 0, 201, 0), none, some (2, 10, 0, 203, 0), none, some (2, 11, 0, 205, 0), none, some (18, 54, 13, 208, 178), none, none, some (16, 0, 306, 211, 0), none, none, some (2, 1, 0, 212, 0), some (2, 2, 0, 213, 0), some (2, 3, 0, 214, 0), some (2, 4, 0, 216, 0), none, some (2, 5, 0, 218, 0), none, some (2, 9, 0, 220, 0), none, some (2, 0, 0, 221, 0), some (0, 0, 4, 222, 0), some (1, 13, 0, 224, 0), none, some (6, 3, 0, 225, 0), some (0, 0, 2, 226, 0), some (6, 0, 0, 227, 0), some (0, 0, 120, 229, 0), none, some (18, 43, 3, 232, 143), none, none, some (18, 51, 7, 235, 166), none, none, some (16, 0, 306, 238, 0), none, none, some (2, 1, 0, 239, 0), some (2, 2, 0, 240, 0), some (2, 3, 0, 241, 0), some (2, 4, 0, 243, 0), none, some (2, 6, 0, 245, 0), none, some (2, 9, 0, 247, 0), none, some (2, 10, 0, 249, 0), none, some (2, 11, 0, 251, 0), none, some (2, 0, 0, 252, 0), some (0, 0, 4, 253, 0), some (1, 13, 0, 255, 0), none, some (6, 3, 0, 256, 0)]
def qc_t55_4 : List (Option qa_I) := [some (0, 0, 3, 257, 0), some (6, 0, 0, 258, 0), some (0, 0, 1200, 261, 0), none, none, some (18, 43, 3, 264, 143), none, none, some (18, 52, 9, 267, 170), none, none, some (16, 0, 306, 270, 0), none, none, some (2, 1, 0, 271, 0), some (2, 7, 0, 273, 0), none, some (2, 9, 0, 275, 0), none, some (18, 53, 3, 278, 174), none, none, some (16, 0, 306, 281, 0), none, none, some (2, 1, 0, 282, 0), some (1, 14, 0, 284, 0), none, some (18, 36, 2, 287, 75), none, none, some (2, 2, 0, 288, 0), some (2, 4, 0, 290, 0), none, some (2, 6, 0, 292, 0), none, some (2, 9, 0, 294, 0), none, some (1, 14, 0, 296, 0), none, some (18, 49, 5, 299, 140), none, none, some (15, 1, 306, 302, 0), none, none, some (0, 0, 1, 303, 0), some (17, 0, 0, 307, 0), none, none, some (0, 0, 0, 307, 0), some (3, 12, 0, 309, 0), none, some (5, 13, 1, 312, 0), none, none, some (17, 0, 0, 155, 0), none, none, some (1, 12, 0, 317, 0), none, some (16, 0, 484, 320, 0), none, none]
def qc_t55_5 : List (Option qa_I) := [some (2, 1, 0, 321, 0), some (0, 0, 0, 322, 0), some (0, 0, -2, 324, 0), none, some (0, 0, 0, 325, 0), some (0, 0, 0, 326, 0), some (0, 0, 0, 327, 0), some (0, 0, 0, 328, 0), some (0, 0, 0, 329, 0), some (18, 44, 8, 332, 129), none, none, some (0, 0, -3000, 335, 0), none, none, some (15, 1, 484, 338, 0), none, none, some (2, 1, 0, 339, 0), some (0, 0, 1, 340, 0), some (0, 0, 8, 342, 0), none, some (0, 0, 0, 343, 0), some (0, 0, 0, 344, 0), some (0, 0, 0, 345, 0), some (0, 0, 0, 346, 0), some (0, 0, 0, 347, 0), some (18, 44, 8, 350, 129), none, none, some (0, 0, -3000, 353, 0), none, none, some (15, 1, 484, 356, 0), none, none, some (2, 1, 0, 357, 0), some (0, 0, 2, 358, 0), some (0, 0, 0, 359, 0), some (0, 0, -1, 360, 0), some (0, 0, 0, 361, 0), some (0, 0, 0, 362, 0), some (0, 0, 0, 363, 0), some (0, 0, 0, 364, 0), some (18, 44, 8, 367, 129), none, none, some (0, 0, -3000, 370, 0), none, none, some (15, 1, 484, 373, 0), none, none, some (2, 1, 0, 374, 0), some (0, 0, 3, 375, 0), some (0, 0, -1, 376, 0), some (0, 0, 0, 377, 0), some (0, 0, 0, 378, 0), some (0, 0, 0, 379, 0), some (0, 0, 0, 380, 0), some (0, 0, 0, 381, 0), some (18, 44, 8, 384, 129), none, none]
def qc_t55_6 : List (Option qa_I) := [some (0, 0, -3000, 387, 0), none, none, some (15, 1, 484, 390, 0), none, none, some (2, 1, 0, 391, 0), some (0, 0, 4, 392, 0), some (0, 0, 10, 394, 0), none, some (0, 0, 0, 395, 0), some (0, 0, 0, 396, 0), some (0, 0, 0, 397, 0), some (0, 0, 0, 398, 0), some (0, 0, 0, 399, 0), some (18, 44, 8, 402, 129), none, none, some (0, 0, -3000, 405, 0), none, none, some (15, 1, 484, 408, 0), none, none, some (2, 1, 0, 409, 0), some (0, 0, 5, 410, 0), some (0, 0, 0, 411, 0), some (0, 0, 0, 412, 0), some (0, 0, 0, 413, 0), some (0, 0, 0, 414, 0), some (0, 0, 0, 415, 0), some (0, 0, 0, 416, 0), some (18, 44, 8, 419, 129), none, none, some (0, 0, -2000, 422, 0), none, none, some (15, 1, 484, 425, 0), none, none, some (2, 1, 0, 426, 0), some (0, 0, 6, 428, 0), none, some (0, 0, 1, 429, 0), some (0, 0, 51, 431, 0), none, some (0, 0, 0, 432, 0), some (0, 0, 0, 433, 0), some (0, 0, 0, 434, 0), some (0, 0, 0, 435, 0), some (18, 44, 8, 438, 129), none, none, some (0, 0, -2000, 441, 0), none, none, some (15, 1, 484, 444, 0), none, none, some (2, 1, 0, 445, 0), some (0, 0, 7, 447, 0), none, some (0, 0, 0, 448, 0)]
def qc_t55_7 : List (Option qa_I) := [some (0, 0, 0, 449, 0), some (0, 0, 0, 450, 0), some (0, 0, 0, 451, 0), some (0, 0, 0, 452, 0), some (0, 0, 0, 453, 0), some (18, 44, 8, 456, 129), none, none, some (0, 0, -2000, 459, 0), none, none, some (15, 1, 484, 462, 0), none, none, some (2, 1, 0, 463, 0), some (0, 0, 8, 465, 0), none, some (0, 0, -1, 466, 0), some (0, 0, 0, 467, 0), some (0, 0, 0, 468, 0), some (0, 0, 0, 469, 0), some (0, 0, 0, 470, 0), some (0, 0, 0, 471, 0), some (18, 44, 8, 474, 129), none, none, some (0, 0, -2000, 477, 0), none, none, some (15, 1, 484, 480, 0), none, none, some (0, 0, 1, 481, 0), some (17, 0, 0, 485, 0), none, none, some (0, 0, 0, 485, 0), some (19, 1, 0, 485, 0)]
def qc_t55 : List (List (Option qa_I)) := [qc_t55_0, qc_t55_1, qc_t55_2, qc_t55_3, qc_t55_4, qc_t55_5, qc_t55_6, qc_t55_7]
def qc_g0 : List (List (List (Option qa_I))) := [qc_t0, qc_t1, qc_t2, qc_t3, qc_t4, qc_t5, qc_t6, qc_t7, qc_t8, qc_t9, qc_t10, qc_t11, qc_t12, qc_t13, qc_t14, qc_t15]
def qc_g1 : List (List (List (Option qa_I))) := [qc_t16, qc_t17, qc_t18, qc_t19, qc_t20, qc_t21, qc_t22, qc_t23, qc_t24, qc_t25, qc_t26, qc_t27, qc_t28, qc_t29, qc_t30, qc_t31]
def qc_g2 : List (List (List (Option qa_I))) := [qc_t32, qc_t33, qc_t34, qc_t35, qc_t36, qc_t37, qc_t38, qc_t39, qc_t40, qc_t41, qc_t42, qc_t43, qc_t44, qc_t45, qc_t46, qc_t47]
def qc_g3 : List (List (List (Option qa_I))) := [qc_t48, qc_t49, qc_t50, qc_t51, qc_t52, qc_t53, qc_t54, qc_t55]
def qa_tbl : List (List (List (List (Option qa_I)))) := [qc_g0, qc_g1, qc_g2, qc_g3]
def qa_code (i pc : Nat) : Option qa_I := ((((qa_tbl.getD (i / 16) []).getD (i % 16) []).getD (pc / 64) []).getD (pc % 64) none)
def qa_hl : List (List (Nat × Nat × Nat × Nat)) := [[(0, 142, 143, 1), (0, 142, 149, 2), (0, 142, 155, 3)], [(0, 131, 132, 1)]]
def qa_hnd (i : Nat) : List (Nat × Nat × Nat × Nat) := if 44 ≤ i ∧ i ≤ 45 then qa_hl.getD (i - 44) [] else []
/-- where a throw of E at pc goes on -/
def qa_catch : List (Nat × Nat × Nat × Nat) → Nat → Nat → Option Nat
  | [], _, _ => none
  | q :: t, pc, E => bif Nat.ble q.1 pc && Nat.blt pc q.2.1 && Nat.beq q.2.2.2 E then some q.2.2.1 else qa_catch t pc E
abbrev qa_Ly : Type := (Nat × List (Option Nat)) ⊕ (Nat × Nat)
def qa_lays : List (Option qa_Ly) := [some (.inl (5, [some 1, some 3, some 4, some 5, some 8, none])), some (.inl (3, [some 9, some 10, some 11, none, some 2, some 12, some 13])), some (.inl (2, [some 14, some 15, some 16, some 17, none])), some (.inl (4, [some 18, some 19, some 20])), some (.inl (1, [some 21, some 22, some 23, none, none])), some (.inl (0, [some 24, some 25, some 26, none, some 27, some 28, none, none])), some (.inr (0, 60)), some (.inr (0, 60)), some (.inr (0, 6)), some (.inr (0, 8)), some (.inr (0, 8)), some (.inr (0, 8)), some (.inr (0, 2880)), some (.inr (0, 2880)), some (.inr (0, 80)), some (.inr (0, 80)), some (.inr (0, 80)), some (.inr (1, 80)), some (.inr (0, 2880)), some (.inr (0, 120)), some (.inr (0, 120)), some (.inr (0, 10)), some (.inr (0, 10)), some (.inr (0, 120)), some (.inr (0, 4)), some (.inr (0, 4)), some (.inr (1, 4)), some (.inr (0, 10)), some (.inr (0, 10)), some (.inr (0, 60)), some (.inr (0, 9)), some (.inr (0, 20)), some (.inr (0, 12)), some (.inr (0, 20)), some (.inr (0, 13)), some (.inr (2, 60)), some (.inr (2, 60))]
def qa_NC : Nat := 37
def qa_lay (k : Nat) : Option qa_Ly := qa_lays.getD k none
def qa_fI (c k j : Nat) : Bool := match qa_lay k with
  | some (.inl q) => Nat.beq q.1 c && (match q.2[j]? with
    | some none => true
    | _ => false)
  | _ => false
def qa_fR (c k j : Nat) : Option Nat := match qa_lay k with
  | some (.inl q) => bif Nat.beq q.1 c then (match q.2[j]? with
    | some x => x
    | none => none) else none
  | _ => none
def qa_len (t k : Nat) : Option Nat := match qa_lay k with
  | some (.inr q) => bif Nat.beq q.1 t then some q.2 else none
  | _ => none
theorem cd_0_0 : qa_code 0 0 = some (2, 0, 0, 1, 0) := by decide +kernel
theorem cd_0_1 : qa_code 0 1 = some (12, 2, 4, 4, 25) := by decide +kernel
theorem cd_0_4 : qa_code 0 4 = some (19, 0, 0, 4, 0) := by decide +kernel
theorem cd_1_0 : qa_code 1 0 = some (2, 0, 0, 1, 0) := by decide +kernel
theorem cd_1_1 : qa_code 1 1 = some (12, 1, 3, 4, 21) := by decide +kernel
theorem cd_1_4 : qa_code 1 4 = some (19, 0, 0, 4, 0) := by decide +kernel
theorem cd_2_0 : qa_code 2 0 = some (2, 0, 0, 1, 0) := by decide +kernel
theorem cd_2_1 : qa_code 2 1 = some (12, 1, 4, 4, 25) := by decide +kernel
theorem cd_2_4 : qa_code 2 4 = some (19, 0, 0, 4, 0) := by decide +kernel
theorem cd_3_0 : qa_code 3 0 = some (2, 0, 0, 1, 0) := by decide +kernel
theorem cd_3_1 : qa_code 3 1 = some (13, 1, 2, 4, 18) := by decide +kernel
theorem cd_3_4 : qa_code 3 4 = some (1, 1, 0, 5, 0) := by decide +kernel
theorem cd_3_5 : qa_code 3 5 = some (10, 0, 0, 6, 0) := by decide +kernel
theorem cd_3_6 : qa_code 3 6 = some (19, 0, 0, 6, 0) := by decide +kernel
theorem cd_4_0 : qa_code 4 0 = some (2, 0, 0, 1, 0) := by decide +kernel
theorem cd_4_1 : qa_code 4 1 = some (13, 1, 2, 4, 18) := by decide +kernel
theorem cd_4_4 : qa_code 4 4 = some (1, 1, 0, 5, 0) := by decide +kernel
theorem cd_4_5 : qa_code 4 5 = some (10, 0, 0, 6, 0) := by decide +kernel
theorem cd_4_6 : qa_code 4 6 = some (16, 5, 13, 9, 0) := by decide +kernel
theorem cd_4_9 : qa_code 4 9 = some (0, 0, 1, 10, 0) := by decide +kernel
theorem cd_4_10 : qa_code 4 10 = some (17, 0, 0, 14, 0) := by decide +kernel
theorem cd_4_13 : qa_code 4 13 = some (0, 0, 0, 14, 0) := by decide +kernel
theorem cd_4_14 : qa_code 4 14 = some (19, 1, 0, 14, 0) := by decide +kernel
theorem cd_5_0 : qa_code 5 0 = some (2, 0, 0, 1, 0) := by decide +kernel
theorem cd_5_1 : qa_code 5 1 = some (12, 0, 3, 4, 22) := by decide +kernel
theorem cd_5_4 : qa_code 5 4 = some (19, 0, 0, 4, 0) := by decide +kernel
theorem cd_6_0 : qa_code 6 0 = some (2, 0, 0, 1, 0) := by decide +kernel
theorem cd_6_1 : qa_code 6 1 = some (12, 0, 7, 4, 35) := by decide +kernel
theorem cd_6_4 : qa_code 6 4 = some (19, 0, 0, 4, 0) := by decide +kernel
theorem cd_7_0 : qa_code 7 0 = some (2, 0, 0, 1, 0) := by decide +kernel
theorem cd_7_1 : qa_code 7 1 = some (12, 3, 3, 4, 21) := by decide +kernel
theorem cd_7_4 : qa_code 7 4 = some (19, 0, 0, 4, 0) := by decide +kernel
theorem cd_8_0 : qa_code 8 0 = some (0, 0, 3, 1, 0) := by decide +kernel
theorem cd_8_1 : qa_code 8 1 = some (2, 0, 0, 2, 0) := by decide +kernel
theorem cd_8_2 : qa_code 8 2 = some (12, 3, 3, 5, 21) := by decide +kernel
theorem cd_8_5 : qa_code 8 5 = some (6, 3, 0, 6, 0) := by decide +kernel
theorem cd_8_6 : qa_code 8 6 = some (19, 0, 0, 6, 0) := by decide +kernel
theorem cd_9_0 : qa_code 9 0 = some (1, 1, 0, 1, 0) := by decide +kernel
theorem cd_9_1 : qa_code 9 1 = some (0, 0, 0, 2, 0) := by decide +kernel
theorem cd_9_2 : qa_code 9 2 = some (2, 0, 0, 3, 0) := by decide +kernel
theorem cd_9_3 : qa_code 9 3 = some (12, 3, 3, 6, 21) := by decide +kernel
theorem cd_9_6 : qa_code 9 6 = some (0, 0, 1, 7, 0) := by decide +kernel
theorem cd_9_7 : qa_code 9 7 = some (6, 2, 0, 8, 0) := by decide +kernel
theorem cd_9_8 : qa_code 9 8 = some (18, 41, 3, 11, 38) := by decide +kernel
theorem cd_9_11 : qa_code 9 11 = some (19, 1, 0, 11, 0) := by decide +kernel
theorem cd_10_0 : qa_code 10 0 = some (2, 0, 0, 1, 0) := by decide +kernel
theorem cd_10_1 : qa_code 10 1 = some (1, 1, 0, 2, 0) := by decide +kernel
theorem cd_10_2 : qa_code 10 2 = some (18, 9, 2, 5, 42) := by decide +kernel
theorem cd_10_5 : qa_code 10 5 = some (16, 0, 28, 8, 0) := by decide +kernel
theorem cd_10_8 : qa_code 10 8 = some (1, 2, 0, 9, 0) := by decide +kernel
theorem cd_10_9 : qa_code 10 9 = some (0, 0, 0, 10, 0) := by decide +kernel
theorem cd_10_10 : qa_code 10 10 = some (0, 0, 2, 11, 0) := by decide +kernel
theorem cd_10_11 : qa_code 10 11 = some (18, 41, 3, 14, 38) := by decide +kernel
theorem cd_10_14 : qa_code 10 14 = some (16, 0, 28, 17, 0) := by decide +kernel
theorem cd_10_17 : qa_code 10 17 = some (1, 3, 0, 18, 0) := by decide +kernel
theorem cd_10_18 : qa_code 10 18 = some (18, 42, 1, 21, 46) := by decide +kernel
theorem cd_10_21 : qa_code 10 21 = some (16, 0, 28, 24, 0) := by decide +kernel
theorem cd_10_24 : qa_code 10 24 = some (0, 0, 1, 25, 0) := by decide +kernel
theorem cd_10_25 : qa_code 10 25 = some (17, 0, 0, 29, 0) := by decide +kernel
theorem cd_10_28 : qa_code 10 28 = some (0, 0, 0, 29, 0) := by decide +kernel
theorem cd_10_29 : qa_code 10 29 = some (19, 1, 0, 29, 0) := by decide +kernel
theorem cd_11_0 : qa_code 11 0 = some (2, 0, 0, 1, 0) := by decide +kernel
theorem cd_11_1 : qa_code 11 1 = some (13, 3, 4, 4, 28) := by decide +kernel
theorem cd_11_4 : qa_code 11 4 = some (18, 0, 1, 7, 49) := by decide +kernel
theorem cd_11_7 : qa_code 11 7 = some (19, 0, 0, 7, 0) := by decide +kernel
theorem cd_12_0 : qa_code 12 0 = some (2, 0, 0, 1, 0) := by decide +kernel
theorem cd_12_1 : qa_code 12 1 = some (13, 3, 5, 4, 32) := by decide +kernel
theorem cd_12_4 : qa_code 12 4 = some (1, 1, 0, 5, 0) := by decide +kernel
theorem cd_12_5 : qa_code 12 5 = some (0, 0, 120, 7, 0) := by decide +kernel
theorem cd_12_7 : qa_code 12 7 = some (6, 3, 0, 8, 0) := by decide +kernel
theorem cd_12_8 : qa_code 12 8 = some (1, 2, 0, 9, 0) := by decide +kernel
theorem cd_12_9 : qa_code 12 9 = some (6, 0, 0, 10, 0) := by decide +kernel
theorem cd_12_10 : qa_code 12 10 = some (10, 0, 0, 11, 0) := by decide +kernel
theorem cd_12_11 : qa_code 12 11 = some (19, 0, 0, 11, 0) := by decide +kernel
theorem cd_13_0 : qa_code 13 0 = some (0, 0, 0, 1, 0) := by decide +kernel
theorem cd_13_1 : qa_code 13 1 = some (3, 2, 0, 2, 0) := by decide +kernel
theorem cd_13_2 : qa_code 13 2 = some (0, 0, 0, 3, 0) := by decide +kernel
theorem cd_13_3 : qa_code 13 3 = some (3, 3, 0, 4, 0) := by decide +kernel
theorem cd_13_4 : qa_code 13 4 = some (1, 3, 0, 5, 0) := by decide +kernel
theorem cd_13_5 : qa_code 13 5 = some (2, 0, 0, 6, 0) := by decide +kernel
theorem cd_13_6 : qa_code 13 6 = some (18, 8, 1, 9, 75) := by decide +kernel
theorem cd_13_9 : qa_code 13 9 = some (15, 3, 32, 12, 0) := by decide +kernel
theorem cd_13_12 : qa_code 13 12 = some (1, 2, 0, 13, 0) := by decide +kernel
theorem cd_13_13 : qa_code 13 13 = some (2, 0, 0, 14, 0) := by decide +kernel
theorem cd_13_14 : qa_code 13 14 = some (13, 3, 6, 17, 35) := by decide +kernel
theorem cd_13_17 : qa_code 13 17 = some (1, 3, 0, 18, 0) := by decide +kernel
theorem cd_13_18 : qa_code 13 18 = some (0, 0, 120, 20, 0) := by decide +kernel
theorem cd_13_20 : qa_code 13 20 = some (6, 3, 0, 21, 0) := by decide +kernel
theorem cd_13_21 : qa_code 13 21 = some (1, 1, 0, 22, 0) := by decide +kernel
theorem cd_13_22 : qa_code 13 22 = some (6, 0, 0, 23, 0) := by decide +kernel
theorem cd_13_23 : qa_code 13 23 = some (10, 0, 0, 24, 0) := by decide +kernel
theorem cd_13_24 : qa_code 13 24 = some (6, 7, 0, 25, 0) := by decide +kernel
theorem cd_13_25 : qa_code 13 25 = some (3, 2, 0, 26, 0) := by decide +kernel
theorem cd_13_26 : qa_code 13 26 = some (5, 3, 1, 29, 0) := by decide +kernel
theorem cd_13_29 : qa_code 13 29 = some (17, 0, 0, 4, 0) := by decide +kernel
theorem cd_13_32 : qa_code 13 32 = some (1, 2, 0, 33, 0) := by decide +kernel
theorem cd_13_33 : qa_code 13 33 = some (19, 0, 0, 33, 0) := by decide +kernel
theorem cd_14_0 : qa_code 14 0 = some (2, 0, 0, 1, 0) := by decide +kernel
theorem cd_14_1 : qa_code 14 1 = some (13, 4, 2, 4, 18) := by decide +kernel
theorem cd_14_4 : qa_code 14 4 = some (1, 1, 0, 5, 0) := by decide +kernel
theorem cd_14_5 : qa_code 14 5 = some (10, 0, 0, 6, 0) := by decide +kernel
theorem cd_14_6 : qa_code 14 6 = some (19, 0, 0, 6, 0) := by decide +kernel
theorem cd_15_0 : qa_code 15 0 = some (0, 0, 0, 1, 0) := by decide +kernel
theorem cd_15_1 : qa_code 15 1 = some (3, 1, 0, 2, 0) := by decide +kernel
theorem cd_15_2 : qa_code 15 2 = some (0, 0, 0, 3, 0) := by decide +kernel
theorem cd_15_3 : qa_code 15 3 = some (3, 2, 0, 4, 0) := by decide +kernel
theorem cd_15_4 : qa_code 15 4 = some (1, 2, 0, 5, 0) := by decide +kernel
theorem cd_15_5 : qa_code 15 5 = some (0, 0, 120, 7, 0) := by decide +kernel
theorem cd_15_7 : qa_code 15 7 = some (15, 3, 29, 10, 0) := by decide +kernel
theorem cd_15_10 : qa_code 15 10 = some (2, 0, 0, 11, 0) := by decide +kernel
theorem cd_15_11 : qa_code 15 11 = some (13, 4, 2, 14, 18) := by decide +kernel
theorem cd_15_14 : qa_code 15 14 = some (1, 2, 0, 15, 0) := by decide +kernel
theorem cd_15_15 : qa_code 15 15 = some (10, 0, 0, 16, 0) := by decide +kernel
theorem cd_15_16 : qa_code 15 16 = some (0, 0, 2, 17, 0) := by decide +kernel
theorem cd_15_17 : qa_code 15 17 = some (15, 1, 23, 20, 0) := by decide +kernel
theorem cd_15_20 : qa_code 15 20 = some (5, 1, 1, 23, 0) := by decide +kernel
theorem cd_15_23 : qa_code 15 23 = some (5, 2, 1, 26, 0) := by decide +kernel
theorem cd_15_26 : qa_code 15 26 = some (17, 0, 0, 4, 0) := by decide +kernel
theorem cd_15_29 : qa_code 15 29 = some (1, 1, 0, 30, 0) := by decide +kernel
theorem cd_15_30 : qa_code 15 30 = some (19, 0, 0, 30, 0) := by decide +kernel
theorem cd_16_0 : qa_code 16 0 = some (0, 0, 0, 1, 0) := by decide +kernel
theorem cd_16_1 : qa_code 16 1 = some (3, 2, 0, 2, 0) := by decide +kernel
theorem cd_16_2 : qa_code 16 2 = some (0, 0, 0, 3, 0) := by decide +kernel
theorem cd_16_3 : qa_code 16 3 = some (3, 3, 0, 4, 0) := by decide +kernel
theorem cd_16_4 : qa_code 16 4 = some (1, 3, 0, 5, 0) := by decide +kernel
theorem cd_16_5 : qa_code 16 5 = some (0, 0, 120, 7, 0) := by decide +kernel
theorem cd_16_7 : qa_code 16 7 = some (15, 3, 37, 10, 0) := by decide +kernel
theorem cd_16_10 : qa_code 16 10 = some (2, 0, 0, 11, 0) := by decide +kernel
theorem cd_16_11 : qa_code 16 11 = some (13, 4, 2, 14, 18) := by decide +kernel
theorem cd_16_14 : qa_code 16 14 = some (1, 3, 0, 15, 0) := by decide +kernel
theorem cd_16_15 : qa_code 16 15 = some (10, 0, 0, 16, 0) := by decide +kernel
theorem cd_16_16 : qa_code 16 16 = some (16, 0, 31, 19, 0) := by decide +kernel
theorem cd_16_19 : qa_code 16 19 = some (2, 0, 0, 20, 0) := by decide +kernel
theorem cd_16_20 : qa_code 16 20 = some (1, 3, 0, 21, 0) := by decide +kernel
theorem cd_16_21 : qa_code 16 21 = some (2, 1, 0, 22, 0) := by decide +kernel
theorem cd_16_22 : qa_code 16 22 = some (18, 17, 3, 25, 34) := by decide +kernel
theorem cd_16_25 : qa_code 16 25 = some (16, 1, 31, 28, 0) := by decide +kernel
theorem cd_16_28 : qa_code 16 28 = some (5, 2, 1, 31, 0) := by decide +kernel
theorem cd_16_31 : qa_code 16 31 = some (5, 3, 1, 34, 0) := by decide +kernel
theorem cd_16_34 : qa_code 16 34 = some (17, 0, 0, 4, 0) := by decide +kernel
theorem cd_16_37 : qa_code 16 37 = some (1, 2, 0, 38, 0) := by decide +kernel
theorem cd_16_38 : qa_code 16 38 = some (19, 0, 0, 38, 0) := by decide +kernel
theorem cd_17_0 : qa_code 17 0 = some (2, 0, 0, 1, 0) := by decide +kernel
theorem cd_17_1 : qa_code 17 1 = some (13, 4, 1, 4, 15) := by decide +kernel
theorem cd_17_4 : qa_code 17 4 = some (1, 1, 0, 5, 0) := by decide +kernel
theorem cd_17_5 : qa_code 17 5 = some (10, 0, 0, 6, 0) := by decide +kernel
theorem cd_17_6 : qa_code 17 6 = some (2, 2, 0, 7, 0) := by decide +kernel
theorem cd_17_7 : qa_code 17 7 = some (18, 7, 1, 10, 31) := by decide +kernel
theorem cd_17_10 : qa_code 17 10 = some (15, 0, 15, 13, 0) := by decide +kernel
theorem cd_17_13 : qa_code 17 13 = some (0, 0, 0, 14, 0) := by decide +kernel
theorem cd_17_14 : qa_code 17 14 = some (19, 1, 0, 14, 0) := by decide +kernel
theorem cd_17_15 : qa_code 17 15 = some (0, 0, 0, 16, 0) := by decide +kernel
theorem cd_17_16 : qa_code 17 16 = some (3, 3, 0, 17, 0) := by decide +kernel
theorem cd_17_17 : qa_code 17 17 = some (1, 3, 0, 18, 0) := by decide +kernel
theorem cd_17_18 : qa_code 17 18 = some (2, 2, 0, 19, 0) := by decide +kernel
theorem cd_17_19 : qa_code 17 19 = some (18, 8, 1, 22, 21) := by decide +kernel
theorem cd_17_22 : qa_code 17 22 = some (15, 3, 53, 25, 0) := by decide +kernel
theorem cd_17_25 : qa_code 17 25 = some (2, 0, 0, 26, 0) := by decide +kernel
theorem cd_17_26 : qa_code 17 26 = some (13, 4, 0, 29, 9) := by decide +kernel
theorem cd_17_29 : qa_code 17 29 = some (1, 3, 0, 30, 0) := by decide +kernel
theorem cd_17_30 : qa_code 17 30 = some (0, 0, 120, 32, 0) := by decide +kernel
theorem cd_17_32 : qa_code 17 32 = some (6, 3, 0, 33, 0) := by decide +kernel
theorem cd_17_33 : qa_code 17 33 = some (1, 1, 0, 34, 0) := by decide +kernel
theorem cd_17_34 : qa_code 17 34 = some (6, 0, 0, 35, 0) := by decide +kernel
theorem cd_17_35 : qa_code 17 35 = some (10, 0, 0, 36, 0) := by decide +kernel
theorem cd_17_36 : qa_code 17 36 = some (2, 2, 0, 37, 0) := by decide +kernel
theorem cd_17_37 : qa_code 17 37 = some (1, 3, 0, 38, 0) := by decide +kernel
theorem cd_17_38 : qa_code 17 38 = some (1, 1, 0, 39, 0) := by decide +kernel
theorem cd_17_39 : qa_code 17 39 = some (18, 12, 3, 42, 27) := by decide +kernel
theorem cd_17_42 : qa_code 17 42 = some (15, 0, 47, 45, 0) := by decide +kernel
theorem cd_17_45 : qa_code 17 45 = some (0, 0, 0, 46, 0) := by decide +kernel
theorem cd_17_46 : qa_code 17 46 = some (19, 1, 0, 46, 0) := by decide +kernel
theorem cd_17_47 : qa_code 17 47 = some (5, 3, 1, 50, 0) := by decide +kernel
theorem cd_17_50 : qa_code 17 50 = some (17, 0, 0, 17, 0) := by decide +kernel
theorem cd_17_53 : qa_code 17 53 = some (0, 0, 1, 54, 0) := by decide +kernel
theorem cd_17_54 : qa_code 17 54 = some (19, 1, 0, 54, 0) := by decide +kernel
theorem cd_18_0 : qa_code 18 0 = some (1, 1, 0, 1, 0) := by decide +kernel
theorem cd_18_1 : qa_code 18 1 = some (0, 0, -1, 2, 0) := by decide +kernel
theorem cd_18_2 : qa_code 18 2 = some (15, 0, 16, 5, 0) := by decide +kernel
theorem cd_18_5 : qa_code 18 5 = some (2, 0, 0, 6, 0) := by decide +kernel
theorem cd_18_6 : qa_code 18 6 = some (13, 5, 0, 9, 12) := by decide +kernel
theorem cd_18_9 : qa_code 18 9 = some (1, 1, 0, 10, 0) := by decide +kernel
theorem cd_18_10 : qa_code 18 10 = some (18, 9, 2, 13, 45) := by decide +kernel
theorem cd_18_13 : qa_code 18 13 = some (16, 0, 20, 16, 0) := by decide +kernel
theorem cd_18_16 : qa_code 18 16 = some (0, 0, 1, 17, 0) := by decide +kernel
theorem cd_18_17 : qa_code 18 17 = some (17, 0, 0, 21, 0) := by decide +kernel
theorem cd_18_20 : qa_code 18 20 = some (0, 0, 0, 21, 0) := by decide +kernel
theorem cd_18_21 : qa_code 18 21 = some (18, 39, 1, 24, 49) := by decide +kernel
theorem cd_19_0 : qa_code 19 0 = some (2, 0, 0, 1, 0) := by decide +kernel
theorem cd_19_1 : qa_code 19 1 = some (13, 5, 0, 4, 12) := by decide +kernel
theorem cd_19_4 : qa_code 19 4 = some (1, 1, 0, 5, 0) := by decide +kernel
theorem cd_19_5 : qa_code 19 5 = some (1, 2, 0, 6, 0) := by decide +kernel
theorem cd_19_6 : qa_code 19 6 = some (1, 3, 0, 7, 0) := by decide +kernel
theorem cd_19_7 : qa_code 19 7 = some (18, 10, 4, 10, 75) := by decide +kernel
theorem cd_19_10 : qa_code 19 10 = some (16, 0, 27, 13, 0) := by decide +kernel
theorem cd_19_13 : qa_code 19 13 = some (1, 5, 0, 15, 0) := by decide +kernel
theorem cd_19_15 : qa_code 19 15 = some (0, 0, 0, 16, 0) := by decide +kernel
theorem cd_19_16 : qa_code 19 16 = some (0, 0, 5, 17, 0) := by decide +kernel
theorem cd_19_17 : qa_code 19 17 = some (18, 41, 3, 20, 53) := by decide +kernel
theorem cd_19_20 : qa_code 19 20 = some (16, 0, 27, 23, 0) := by decide +kernel
theorem cd_19_23 : qa_code 19 23 = some (0, 0, 1, 24, 0) := by decide +kernel
theorem cd_19_24 : qa_code 19 24 = some (17, 0, 0, 28, 0) := by decide +kernel
theorem cd_19_27 : qa_code 19 27 = some (0, 0, 0, 28, 0) := by decide +kernel
theorem cd_19_28 : qa_code 19 28 = some (18, 39, 1, 31, 49) := by decide +kernel
theorem cd_20_0 : qa_code 20 0 = some (2, 0, 0, 1, 0) := by decide +kernel
theorem cd_20_1 : qa_code 20 1 = some (13, 5, 0, 4, 12) := by decide +kernel
theorem cd_20_4 : qa_code 20 4 = some (1, 1, 0, 5, 0) := by decide +kernel
theorem cd_20_5 : qa_code 20 5 = some (1, 2, 0, 6, 0) := by decide +kernel
theorem cd_20_6 : qa_code 20 6 = some (1, 3, 0, 7, 0) := by decide +kernel
theorem cd_20_7 : qa_code 20 7 = some (18, 10, 4, 10, 75) := by decide +kernel
theorem cd_20_10 : qa_code 20 10 = some (18, 39, 1, 13, 49) := by decide +kernel
theorem cd_21_0 : qa_code 21 0 = some (2, 0, 0, 1, 0) := by decide +kernel
theorem cd_21_1 : qa_code 21 1 = some (13, 5, 0, 4, 12) := by decide +kernel
theorem cd_21_4 : qa_code 21 4 = some (1, 1, 0, 5, 0) := by decide +kernel
theorem cd_21_5 : qa_code 21 5 = some (1, 2, 0, 6, 0) := by decide +kernel
theorem cd_21_6 : qa_code 21 6 = some (1, 3, 0, 7, 0) := by decide +kernel
theorem cd_21_7 : qa_code 21 7 = some (18, 10, 4, 10, 75) := by decide +kernel
theorem cd_21_10 : qa_code 21 10 = some (18, 39, 1, 13, 49) := by decide +kernel
theorem cd_22_0 : qa_code 22 0 = some (1, 1, 0, 1, 0) := by decide +kernel
theorem cd_22_1 : qa_code 22 1 = some (0, 0, 0, 2, 0) := by decide +kernel
theorem cd_22_2 : qa_code 22 2 = some (2, 0, 0, 3, 0) := by decide +kernel
theorem cd_22_3 : qa_code 22 3 = some (13, 5, 0, 6, 12) := by decide +kernel
theorem cd_22_6 : qa_code 22 6 = some (18, 11, 1, 9, 86) := by decide +kernel
theorem cd_22_9 : qa_code 22 9 = some (0, 0, 1, 10, 0) := by decide +kernel
theorem cd_22_10 : qa_code 22 10 = some (6, 2, 0, 11, 0) := by decide +kernel
theorem cd_22_11 : qa_code 22 11 = some (18, 41, 3, 14, 53) := by decide +kernel
theorem cd_22_14 : qa_code 22 14 = some (18, 39, 1, 17, 49) := by decide +kernel
theorem cd_23_0 : qa_code 23 0 = some (2, 0, 0, 1, 0) := by decide +kernel
theorem cd_23_1 : qa_code 23 1 = some (13, 5, 0, 4, 12) := by decide +kernel
theorem cd_23_4 : qa_code 23 4 = some (1, 1, 0, 5, 0) := by decide +kernel
theorem cd_23_5 : qa_code 23 5 = some (18, 9, 2, 8, 45) := by decide +kernel
theorem cd_23_8 : qa_code 23 8 = some (16, 0, 22, 11, 0) := by decide +kernel
theorem cd_23_11 : qa_code 23 11 = some (1, 2, 0, 12, 0) := by decide +kernel
theorem cd_23_12 : qa_code 23 12 = some (18, 42, 1, 15, 110) := by decide +kernel
theorem cd_23_15 : qa_code 23 15 = some (16, 0, 22, 18, 0) := by decide +kernel
theorem cd_23_18 : qa_code 23 18 = some (0, 0, 1, 19, 0) := by decide +kernel
theorem cd_23_19 : qa_code 23 19 = some (17, 0, 0, 23, 0) := by decide +kernel
theorem cd_23_22 : qa_code 23 22 = some (0, 0, 0, 23, 0) := by decide +kernel
theorem cd_23_23 : qa_code 23 23 = some (18, 39, 1, 26, 49) := by decide +kernel
theorem cd_24_0 : qa_code 24 0 = some (1, 1, 0, 1, 0) := by decide +kernel
theorem cd_24_1 : qa_code 24 1 = some (18, 42, 1, 4, 110) := by decide +kernel
theorem cd_24_4 : qa_code 24 4 = some (18, 39, 1, 7, 49) := by decide +kernel
theorem cd_24_7 : qa_code 24 7 = some (2, 0, 0, 8, 0) := by decide +kernel
theorem cd_24_8 : qa_code 24 8 = some (13, 5, 0, 11, 12) := by decide +kernel
theorem cd_24_11 : qa_code 24 11 = some (1, 1, 0, 12, 0) := by decide +kernel
theorem cd_24_12 : qa_code 24 12 = some (18, 13, 2, 15, 116) := by decide +kernel
theorem cd_24_15 : qa_code 24 15 = some (19, 0, 0, 15, 0) := by decide +kernel
theorem cd_25_0 : qa_code 25 0 = some (1, 1, 0, 1, 0) := by decide +kernel
theorem cd_25_1 : qa_code 25 1 = some (0, 0, 0, 2, 0) := by decide +kernel
theorem cd_25_2 : qa_code 25 2 = some (2, 0, 0, 3, 0) := by decide +kernel
theorem cd_25_3 : qa_code 25 3 = some (13, 5, 2, 6, 26) := by decide +kernel
theorem cd_25_6 : qa_code 25 6 = some (18, 1, 1, 9, 119) := by decide +kernel
theorem cd_25_9 : qa_code 25 9 = some (18, 41, 3, 12, 53) := by decide +kernel
theorem cd_25_12 : qa_code 25 12 = some (16, 0, 33, 15, 0) := by decide +kernel
theorem cd_25_15 : qa_code 25 15 = some (1, 2, 0, 16, 0) := by decide +kernel
theorem cd_25_16 : qa_code 25 16 = some (18, 42, 1, 19, 110) := by decide +kernel
theorem cd_25_19 : qa_code 25 19 = some (16, 0, 33, 22, 0) := by decide +kernel
theorem cd_25_22 : qa_code 25 22 = some (1, 3, 0, 23, 0) := by decide +kernel
theorem cd_25_23 : qa_code 25 23 = some (18, 42, 1, 26, 110) := by decide +kernel
theorem cd_25_26 : qa_code 25 26 = some (16, 0, 33, 29, 0) := by decide +kernel
theorem cd_25_29 : qa_code 25 29 = some (0, 0, 1, 30, 0) := by decide +kernel
theorem cd_25_30 : qa_code 25 30 = some (17, 0, 0, 34, 0) := by decide +kernel
theorem cd_25_33 : qa_code 25 33 = some (0, 0, 0, 34, 0) := by decide +kernel
theorem cd_25_34 : qa_code 25 34 = some (18, 39, 1, 37, 49) := by decide +kernel
theorem cd_26_0 : qa_code 26 0 = some (1, 1, 0, 1, 0) := by decide +kernel
theorem cd_26_1 : qa_code 26 1 = some (0, 0, 0, 2, 0) := by decide +kernel
theorem cd_26_2 : qa_code 26 2 = some (2, 0, 0, 3, 0) := by decide +kernel
theorem cd_26_3 : qa_code 26 3 = some (13, 5, 2, 6, 26) := by decide +kernel
theorem cd_26_6 : qa_code 26 6 = some (18, 1, 1, 9, 119) := by decide +kernel
theorem cd_26_9 : qa_code 26 9 = some (0, 0, 1, 10, 0) := by decide +kernel
theorem cd_26_10 : qa_code 26 10 = some (6, 2, 0, 11, 0) := by decide +kernel
theorem cd_26_11 : qa_code 26 11 = some (18, 41, 3, 14, 53) := by decide +kernel
theorem cd_26_14 : qa_code 26 14 = some (18, 39, 1, 17, 49) := by decide +kernel
theorem cd_27_0 : qa_code 27 0 = some (1, 1, 0, 1, 0) := by decide +kernel
theorem cd_27_1 : qa_code 27 1 = some (0, 0, 0, 2, 0) := by decide +kernel
theorem cd_27_2 : qa_code 27 2 = some (2, 0, 0, 3, 0) := by decide +kernel
theorem cd_27_3 : qa_code 27 3 = some (13, 5, 2, 6, 26) := by decide +kernel
theorem cd_27_6 : qa_code 27 6 = some (18, 2, 1, 9, 126) := by decide +kernel
theorem cd_27_9 : qa_code 27 9 = some (0, 0, 1, 10, 0) := by decide +kernel
theorem cd_27_10 : qa_code 27 10 = some (6, 2, 0, 11, 0) := by decide +kernel
theorem cd_27_11 : qa_code 27 11 = some (18, 41, 3, 14, 53) := by decide +kernel
theorem cd_27_14 : qa_code 27 14 = some (18, 39, 1, 17, 49) := by decide +kernel
theorem cd_28_0 : qa_code 28 0 = some (1, 1, 0, 1, 0) := by decide +kernel
theorem cd_28_1 : qa_code 28 1 = some (18, 42, 1, 4, 110) := by decide +kernel
theorem cd_28_4 : qa_code 28 4 = some (18, 39, 1, 7, 49) := by decide +kernel
theorem cd_28_7 : qa_code 28 7 = some (2, 0, 0, 8, 0) := by decide +kernel
theorem cd_28_8 : qa_code 28 8 = some (13, 5, 1, 11, 19) := by decide +kernel
theorem cd_28_11 : qa_code 28 11 = some (1, 1, 0, 12, 0) := by decide +kernel
theorem cd_28_12 : qa_code 28 12 = some (18, 14, 2, 15, 136) := by decide +kernel
theorem cd_28_15 : qa_code 28 15 = some (2, 0, 0, 16, 0) := by decide +kernel
theorem cd_28_16 : qa_code 28 16 = some (13, 5, 2, 19, 26) := by decide +kernel
theorem cd_28_19 : qa_code 28 19 = some (1, 1, 0, 20, 0) := by decide +kernel
theorem cd_28_20 : qa_code 28 20 = some (18, 4, 2, 23, 139) := by decide +kernel
theorem cd_28_23 : qa_code 28 23 = some (16, 0, 31, 26, 0) := by decide +kernel
theorem cd_28_26 : qa_code 28 26 = some (0, 0, 10, 28, 0) := by decide +kernel
theorem cd_28_28 : qa_code 28 28 = some (17, 0, 0, 32, 0) := by decide +kernel
theorem cd_28_31 : qa_code 28 31 = some (0, 0, 0, 32, 0) := by decide +kernel
theorem cd_28_32 : qa_code 28 32 = some (6, 0, 0, 33, 0) := by decide +kernel
theorem cd_28_33 : qa_code 28 33 = some (19, 0, 0, 33, 0) := by decide +kernel
theorem cd_29_0 : qa_code 29 0 = some (2, 0, 0, 1, 0) := by decide +kernel
theorem cd_29_1 : qa_code 29 1 = some (13, 5, 1, 4, 19) := by decide +kernel
theorem cd_29_4 : qa_code 29 4 = some (18, 15, 1, 7, 89) := by decide +kernel
theorem cd_29_7 : qa_code 29 7 = some (19, 0, 0, 7, 0) := by decide +kernel
theorem cd_30_0 : qa_code 30 0 = some (2, 0, 0, 1, 0) := by decide +kernel
theorem cd_30_1 : qa_code 30 1 = some (13, 5, 1, 4, 19) := by decide +kernel
theorem cd_30_4 : qa_code 30 4 = some (2, 0, 0, 5, 0) := by decide +kernel
theorem cd_30_5 : qa_code 30 5 = some (13, 5, 0, 8, 12) := by decide +kernel
theorem cd_30_8 : qa_code 30 8 = some (18, 16, 2, 11, 142) := by decide +kernel
theorem cd_30_11 : qa_code 30 11 = some (19, 0, 0, 11, 0) := by decide +kernel
theorem cd_31_0 : qa_code 31 0 = some (1, 1, 0, 1, 0) := by decide +kernel
theorem cd_31_1 : qa_code 31 1 = some (0, 0, 1, 2, 0) := by decide +kernel
theorem cd_31_2 : qa_code 31 2 = some (0, 0, 5, 3, 0) := by decide +kernel
theorem cd_31_3 : qa_code 31 3 = some (18, 41, 3, 6, 53) := by decide +kernel
theorem cd_31_6 : qa_code 31 6 = some (18, 40, 1, 9, 57) := by decide +kernel
theorem cd_32_0 : qa_code 32 0 = some (1, 1, 0, 1, 0) := by decide +kernel
theorem cd_32_1 : qa_code 32 1 = some (0, 0, 1, 2, 0) := by decide +kernel
theorem cd_32_2 : qa_code 32 2 = some (0, 0, 100, 4, 0) := by decide +kernel
theorem cd_32_4 : qa_code 32 4 = some (18, 41, 3, 7, 53) := by decide +kernel
theorem cd_32_7 : qa_code 32 7 = some (16, 0, 24, 10, 0) := by decide +kernel
theorem cd_32_10 : qa_code 32 10 = some (1, 2, 0, 11, 0) := by decide +kernel
theorem cd_32_11 : qa_code 32 11 = some (0, 0, 1, 12, 0) := by decide +kernel
theorem cd_32_12 : qa_code 32 12 = some (0, 0, 50, 14, 0) := by decide +kernel
theorem cd_32_14 : qa_code 32 14 = some (18, 41, 3, 17, 53) := by decide +kernel
theorem cd_32_17 : qa_code 32 17 = some (16, 0, 24, 20, 0) := by decide +kernel
theorem cd_32_20 : qa_code 32 20 = some (0, 0, 1, 21, 0) := by decide +kernel
theorem cd_32_21 : qa_code 32 21 = some (17, 0, 0, 25, 0) := by decide +kernel
theorem cd_32_24 : qa_code 32 24 = some (0, 0, 0, 25, 0) := by decide +kernel
theorem cd_32_25 : qa_code 32 25 = some (18, 40, 1, 28, 57) := by decide +kernel
theorem cd_33_0 : qa_code 33 0 = some (1, 1, 0, 1, 0) := by decide +kernel
theorem cd_33_1 : qa_code 33 1 = some (0, 0, 1, 2, 0) := by decide +kernel
theorem cd_33_2 : qa_code 33 2 = some (0, 0, 24, 4, 0) := by decide +kernel
theorem cd_33_4 : qa_code 33 4 = some (18, 41, 3, 7, 53) := by decide +kernel
theorem cd_33_7 : qa_code 33 7 = some (18, 40, 1, 10, 57) := by decide +kernel
theorem cd_34_0 : qa_code 34 0 = some (1, 1, 0, 1, 0) := by decide +kernel
theorem cd_34_1 : qa_code 34 1 = some (0, 0, 0, 2, 0) := by decide +kernel
theorem cd_34_2 : qa_code 34 2 = some (2, 0, 0, 3, 0) := by decide +kernel
theorem cd_34_3 : qa_code 34 3 = some (13, 5, 3, 6, 33) := by decide +kernel
theorem cd_34_6 : qa_code 34 6 = some (18, 5, 1, 9, 146) := by decide +kernel
theorem cd_34_9 : qa_code 34 9 = some (0, 0, 1, 10, 0) := by decide +kernel
theorem cd_34_10 : qa_code 34 10 = some (6, 2, 0, 11, 0) := by decide +kernel
theorem cd_34_11 : qa_code 34 11 = some (18, 41, 3, 14, 53) := by decide +kernel
theorem cd_34_14 : qa_code 34 14 = some (18, 39, 1, 17, 49) := by decide +kernel
theorem cd_35_0 : qa_code 35 0 = some (1, 1, 0, 1, 0) := by decide +kernel
theorem cd_35_1 : qa_code 35 1 = some (0, 0, 0, 2, 0) := by decide +kernel
theorem cd_35_2 : qa_code 35 2 = some (0, 0, 1000, 5, 0) := by decide +kernel
theorem cd_35_5 : qa_code 35 5 = some (18, 41, 3, 8, 53) := by decide +kernel
theorem cd_35_8 : qa_code 35 8 = some (18, 40, 1, 11, 57) := by decide +kernel
theorem cd_36_0 : qa_code 36 0 = some (1, 1, 0, 1, 0) := by decide +kernel
theorem cd_36_1 : qa_code 36 1 = some (0, 0, 0, 2, 0) := by decide +kernel
theorem cd_36_2 : qa_code 36 2 = some (0, 0, 5, 3, 0) := by decide +kernel
theorem cd_36_3 : qa_code 36 3 = some (18, 41, 3, 6, 53) := by decide +kernel
theorem cd_36_6 : qa_code 36 6 = some (18, 39, 1, 9, 49) := by decide +kernel
theorem cd_36_9 : qa_code 36 9 = some (2, 0, 0, 10, 0) := by decide +kernel
theorem cd_36_10 : qa_code 36 10 = some (1, 1, 0, 11, 0) := by decide +kernel
theorem cd_36_11 : qa_code 36 11 = some (18, 38, 2, 14, 165) := by decide +kernel
theorem cd_36_14 : qa_code 36 14 = some (19, 0, 0, 14, 0) := by decide +kernel
theorem cd_37_0 : qa_code 37 0 = some (1, 1, 0, 1, 0) := by decide +kernel
theorem cd_37_1 : qa_code 37 1 = some (0, 0, 0, 2, 0) := by decide +kernel
theorem cd_37_2 : qa_code 37 2 = some (0, 0, 6, 4, 0) := by decide +kernel
theorem cd_37_4 : qa_code 37 4 = some (18, 41, 3, 7, 53) := by decide +kernel
theorem cd_37_7 : qa_code 37 7 = some (18, 39, 1, 10, 49) := by decide +kernel
theorem cd_37_10 : qa_code 37 10 = some (1, 1, 0, 11, 0) := by decide +kernel
theorem cd_37_11 : qa_code 37 11 = some (0, 0, 6, 13, 0) := by decide +kernel
theorem cd_37_13 : qa_code 37 13 = some (15, 1, 26, 16, 0) := by decide +kernel
theorem cd_37_16 : qa_code 37 16 = some (2, 0, 0, 17, 0) := by decide +kernel
theorem cd_37_17 : qa_code 37 17 = some (13, 5, 3, 20, 33) := by decide +kernel
theorem cd_37_20 : qa_code 37 20 = some (18, 6, 1, 23, 172) := by decide +kernel
theorem cd_37_23 : qa_code 37 23 = some (17, 0, 0, 32, 0) := by decide +kernel
theorem cd_37_26 : qa_code 37 26 = some (2, 0, 0, 27, 0) := by decide +kernel
theorem cd_37_27 : qa_code 37 27 = some (13, 5, 4, 30, 37) := by decide +kernel
theorem cd_37_30 : qa_code 37 30 = some (1, 1, 0, 31, 0) := by decide +kernel
theorem cd_37_31 : qa_code 37 31 = some (10, 0, 0, 32, 0) := by decide +kernel
theorem cd_37_32 : qa_code 37 32 = some (19, 0, 0, 32, 0) := by decide +kernel
theorem cd_38_0 : qa_code 38 0 = some (0, 0, 0, 1, 0) := by decide +kernel
theorem cd_38_1 : qa_code 38 1 = some (3, 2, 0, 2, 0) := by decide +kernel
theorem cd_38_2 : qa_code 38 2 = some (0, 0, 0, 3, 0) := by decide +kernel
theorem cd_38_3 : qa_code 38 3 = some (3, 3, 0, 4, 0) := by decide +kernel
theorem cd_38_4 : qa_code 38 4 = some (1, 3, 0, 5, 0) := by decide +kernel
theorem cd_38_5 : qa_code 38 5 = some (0, 0, 120, 7, 0) := by decide +kernel
theorem cd_38_7 : qa_code 38 7 = some (15, 3, 42, 10, 0) := by decide +kernel
theorem cd_38_10 : qa_code 38 10 = some (2, 0, 0, 11, 0) := by decide +kernel
theorem cd_38_11 : qa_code 38 11 = some (13, 5, 0, 14, 12) := by decide +kernel
theorem cd_38_14 : qa_code 38 14 = some (1, 3, 0, 15, 0) := by decide +kernel
theorem cd_38_15 : qa_code 38 15 = some (18, 13, 2, 18, 116) := by decide +kernel
theorem cd_38_18 : qa_code 38 18 = some (0, 0, 1, 19, 0) := by decide +kernel
theorem cd_38_19 : qa_code 38 19 = some (1, 1, 0, 20, 0) := by decide +kernel
theorem cd_38_20 : qa_code 38 20 = some (6, 8, 0, 21, 0) := by decide +kernel
theorem cd_38_21 : qa_code 38 21 = some (6, 6, 0, 22, 0) := by decide +kernel
theorem cd_38_22 : qa_code 38 22 = some (16, 0, 36, 25, 0) := by decide +kernel
theorem cd_38_25 : qa_code 38 25 = some (1, 2, 0, 26, 0) := by decide +kernel
theorem cd_38_26 : qa_code 38 26 = some (2, 0, 0, 27, 0) := by decide +kernel
theorem cd_38_27 : qa_code 38 27 = some (13, 5, 2, 30, 26) := by decide +kernel
theorem cd_38_30 : qa_code 38 30 = some (1, 3, 0, 31, 0) := by decide +kernel
theorem cd_38_31 : qa_code 38 31 = some (18, 3, 2, 34, 175) := by decide +kernel
theorem cd_38_34 : qa_code 38 34 = some (6, 0, 0, 35, 0) := by decide +kernel
theorem cd_38_35 : qa_code 38 35 = some (3, 2, 0, 36, 0) := by decide +kernel
theorem cd_38_36 : qa_code 38 36 = some (5, 3, 1, 39, 0) := by decide +kernel
theorem cd_38_39 : qa_code 38 39 = some (17, 0, 0, 4, 0) := by decide +kernel
theorem cd_38_42 : qa_code 38 42 = some (1, 2, 0, 43, 0) := by decide +kernel
theorem cd_38_43 : qa_code 38 43 = some (0, 0, 24, 45, 0) := by decide +kernel
theorem cd_38_45 : qa_code 38 45 = some (6, 4, 0, 46, 0) := by decide +kernel
theorem cd_38_46 : qa_code 38 46 = some (19, 0, 0, 46, 0) := by decide +kernel
theorem cd_39_0 : qa_code 39 0 = some (1, 0, 0, 1, 0) := by decide +kernel
theorem cd_39_1 : qa_code 39 1 = some (16, 1, 12, 4, 0) := by decide +kernel
theorem cd_39_4 : qa_code 39 4 = some (21, 1, 183, 4, 181) := by decide +kernel
theorem cd_39_12 : qa_code 39 12 = some (20, 0, 0, 12, 0) := by decide +kernel
theorem cd_40_0 : qa_code 40 0 = some (1, 0, 0, 1, 0) := by decide +kernel
theorem cd_40_1 : qa_code 40 1 = some (16, 1, 12, 4, 0) := by decide +kernel
theorem cd_40_4 : qa_code 40 4 = some (21, 2, 186, 4, 184) := by decide +kernel
theorem cd_40_12 : qa_code 40 12 = some (20, 0, 0, 12, 0) := by decide +kernel
theorem cd_41_0 : qa_code 41 0 = some (1, 0, 0, 1, 0) := by decide +kernel
theorem cd_41_1 : qa_code 41 1 = some (1, 1, 0, 2, 0) := by decide +kernel
theorem cd_41_2 : qa_code 41 2 = some (15, 2, 14, 5, 0) := by decide +kernel
theorem cd_41_5 : qa_code 41 5 = some (1, 0, 0, 6, 0) := by decide +kernel
theorem cd_41_6 : qa_code 41 6 = some (1, 2, 0, 7, 0) := by decide +kernel
theorem cd_41_7 : qa_code 41 7 = some (15, 4, 14, 10, 0) := by decide +kernel
theorem cd_41_10 : qa_code 41 10 = some (0, 0, 1, 11, 0) := by decide +kernel
theorem cd_41_11 : qa_code 41 11 = some (17, 0, 0, 15, 0) := by decide +kernel
theorem cd_41_14 : qa_code 41 14 = some (0, 0, 0, 15, 0) := by decide +kernel
theorem cd_41_15 : qa_code 41 15 = some (19, 1, 0, 15, 0) := by decide +kernel
theorem cd_42_0 : qa_code 42 0 = some (1, 0, 0, 1, 0) := by decide +kernel
theorem cd_42_1 : qa_code 42 1 = some (0, 0, 0, 2, 0) := by decide +kernel
theorem cd_42_2 : qa_code 42 2 = some (0, 0, 119, 4, 0) := by decide +kernel
theorem cd_42_4 : qa_code 42 4 = some (18, 41, 3, 7, 53) := by decide +kernel
theorem cd_42_7 : qa_code 42 7 = some (19, 1, 0, 7, 0) := by decide +kernel
theorem cd_43_0 : qa_code 43 0 = some (1, 1, 0, 1, 0) := by decide +kernel
theorem cd_43_1 : qa_code 43 1 = some (2, 0, 0, 2, 0) := by decide +kernel
theorem cd_43_2 : qa_code 43 2 = some (27, 0, 0, 3, 0) := by decide +kernel
theorem cd_43_3 : qa_code 43 3 = some (15, 3, 12, 6, 0) := by decide +kernel
theorem cd_43_6 : qa_code 43 6 = some (2, 0, 0, 7, 0) := by decide +kernel
theorem cd_43_7 : qa_code 43 7 = some (1, 1, 0, 8, 0) := by decide +kernel
theorem cd_43_8 : qa_code 43 8 = some (26, 0, 0, 9, 0) := by decide +kernel
theorem cd_43_9 : qa_code 43 9 = some (17, 0, 0, 25, 0) := by decide +kernel
theorem cd_43_25 : qa_code 43 25 = some (3, 3, 0, 26, 0) := by decide +kernel
theorem cd_43_26 : qa_code 43 26 = some (1, 3, 0, 27, 0) := by decide +kernel
theorem cd_43_27 : qa_code 43 27 = some (33, 0, 2147483647, 29, 7) := by decide +kernel
theorem cd_43_29 : qa_code 43 29 = some (6, 6, 0, 30, 0) := by decide +kernel
theorem cd_43_30 : qa_code 43 30 = some (1, 2, 0, 31, 0) := by decide +kernel
theorem cd_43_31 : qa_code 43 31 = some (6, 5, 0, 32, 0) := by decide +kernel
theorem cd_43_32 : qa_code 43 32 = some (19, 0, 0, 32, 0) := by decide +kernel
theorem cd_44_0 : qa_code 44 0 = some (1, 1, 0, 1, 0) := by decide +kernel
theorem cd_44_1 : qa_code 44 1 = some (16, 1, 15, 4, 0) := by decide +kernel
theorem cd_44_4 : qa_code 44 4 = some (2, 0, 0, 5, 0) := by decide +kernel
theorem cd_44_5 : qa_code 44 5 = some (1, 2, 0, 6, 0) := by decide +kernel
theorem cd_44_6 : qa_code 44 6 = some (1, 3, 0, 7, 0) := by decide +kernel
theorem cd_44_7 : qa_code 44 7 = some (1, 4, 0, 9, 0) := by decide +kernel
theorem cd_44_9 : qa_code 44 9 = some (18, 18, 4, 12, 8) := by decide +kernel
theorem cd_44_12 : qa_code 44 12 = some (17, 0, 0, 142, 0) := by decide +kernel
theorem cd_44_15 : qa_code 44 15 = some (1, 1, 0, 16, 0) := by decide +kernel
theorem cd_44_16 : qa_code 44 16 = some (0, 0, 1, 17, 0) := by decide +kernel
theorem cd_44_17 : qa_code 44 17 = some (15, 1, 37, 20, 0) := by decide +kernel
theorem cd_44_20 : qa_code 44 20 = some (2, 0, 0, 21, 0) := by decide +kernel
theorem cd_44_21 : qa_code 44 21 = some (1, 2, 0, 22, 0) := by decide +kernel
theorem cd_44_22 : qa_code 44 22 = some (1, 3, 0, 23, 0) := by decide +kernel
theorem cd_44_23 : qa_code 44 23 = some (1, 4, 0, 25, 0) := by decide +kernel
theorem cd_44_25 : qa_code 44 25 = some (1, 5, 0, 27, 0) := by decide +kernel
theorem cd_44_27 : qa_code 44 27 = some (1, 6, 0, 29, 0) := by decide +kernel
theorem cd_44_29 : qa_code 44 29 = some (1, 7, 0, 31, 0) := by decide +kernel
theorem cd_44_31 : qa_code 44 31 = some (18, 19, 7, 34, 14) := by decide +kernel
theorem cd_44_34 : qa_code 44 34 = some (17, 0, 0, 142, 0) := by decide +kernel
theorem cd_44_37 : qa_code 44 37 = some (1, 1, 0, 38, 0) := by decide +kernel
theorem cd_44_38 : qa_code 44 38 = some (0, 0, 2, 39, 0) := by decide +kernel
theorem cd_44_39 : qa_code 44 39 = some (15, 1, 53, 42, 0) := by decide +kernel
theorem cd_44_42 : qa_code 44 42 = some (2, 0, 0, 43, 0) := by decide +kernel
theorem cd_44_43 : qa_code 44 43 = some (1, 2, 0, 44, 0) := by decide +kernel
theorem cd_44_44 : qa_code 44 44 = some (1, 3, 0, 45, 0) := by decide +kernel
theorem cd_44_45 : qa_code 44 45 = some (1, 4, 0, 47, 0) := by decide +kernel
theorem cd_44_47 : qa_code 44 47 = some (18, 20, 4, 50, 18) := by decide +kernel
theorem cd_44_50 : qa_code 44 50 = some (17, 0, 0, 142, 0) := by decide +kernel
theorem cd_44_53 : qa_code 44 53 = some (1, 1, 0, 54, 0) := by decide +kernel
theorem cd_44_54 : qa_code 44 54 = some (0, 0, 3, 55, 0) := by decide +kernel
theorem cd_44_55 : qa_code 44 55 = some (15, 1, 69, 58, 0) := by decide +kernel
theorem cd_44_58 : qa_code 44 58 = some (2, 0, 0, 59, 0) := by decide +kernel
theorem cd_44_59 : qa_code 44 59 = some (1, 2, 0, 60, 0) := by decide +kernel
theorem cd_44_60 : qa_code 44 60 = some (1, 3, 0, 61, 0) := by decide +kernel
theorem cd_44_61 : qa_code 44 61 = some (1, 4, 0, 63, 0) := by decide +kernel
theorem cd_44_63 : qa_code 44 63 = some (18, 25, 4, 66, 21) := by decide +kernel
theorem cd_44_66 : qa_code 44 66 = some (17, 0, 0, 142, 0) := by decide +kernel
theorem cd_44_69 : qa_code 44 69 = some (1, 1, 0, 70, 0) := by decide +kernel
theorem cd_44_70 : qa_code 44 70 = some (0, 0, 4, 71, 0) := by decide +kernel
theorem cd_44_71 : qa_code 44 71 = some (15, 1, 82, 74, 0) := by decide +kernel
theorem cd_44_74 : qa_code 44 74 = some (2, 0, 0, 75, 0) := by decide +kernel
theorem cd_44_75 : qa_code 44 75 = some (1, 2, 0, 76, 0) := by decide +kernel
theorem cd_44_76 : qa_code 44 76 = some (18, 26, 2, 79, 24) := by decide +kernel
theorem cd_44_79 : qa_code 44 79 = some (17, 0, 0, 142, 0) := by decide +kernel
theorem cd_44_82 : qa_code 44 82 = some (1, 1, 0, 83, 0) := by decide +kernel
theorem cd_44_83 : qa_code 44 83 = some (0, 0, 5, 84, 0) := by decide +kernel
theorem cd_44_84 : qa_code 44 84 = some (15, 1, 95, 87, 0) := by decide +kernel
theorem cd_44_87 : qa_code 44 87 = some (2, 0, 0, 88, 0) := by decide +kernel
theorem cd_44_88 : qa_code 44 88 = some (1, 2, 0, 89, 0) := by decide +kernel
theorem cd_44_89 : qa_code 44 89 = some (18, 31, 2, 92, 28) := by decide +kernel
theorem cd_44_92 : qa_code 44 92 = some (17, 0, 0, 142, 0) := by decide +kernel
theorem cd_44_95 : qa_code 44 95 = some (1, 1, 0, 96, 0) := by decide +kernel
theorem cd_44_96 : qa_code 44 96 = some (0, 0, 6, 98, 0) := by decide +kernel
theorem cd_44_98 : qa_code 44 98 = some (15, 1, 110, 101, 0) := by decide +kernel
theorem cd_44_101 : qa_code 44 101 = some (2, 0, 0, 102, 0) := by decide +kernel
theorem cd_44_102 : qa_code 44 102 = some (1, 2, 0, 103, 0) := by decide +kernel
theorem cd_44_103 : qa_code 44 103 = some (1, 3, 0, 104, 0) := by decide +kernel
theorem cd_44_104 : qa_code 44 104 = some (18, 32, 3, 107, 31) := by decide +kernel
theorem cd_44_107 : qa_code 44 107 = some (17, 0, 0, 142, 0) := by decide +kernel
theorem cd_44_110 : qa_code 44 110 = some (1, 1, 0, 111, 0) := by decide +kernel
theorem cd_44_111 : qa_code 44 111 = some (0, 0, 7, 113, 0) := by decide +kernel
theorem cd_44_113 : qa_code 44 113 = some (15, 1, 124, 116, 0) := by decide +kernel
theorem cd_44_116 : qa_code 44 116 = some (2, 0, 0, 117, 0) := by decide +kernel
theorem cd_44_117 : qa_code 44 117 = some (1, 2, 0, 118, 0) := by decide +kernel
theorem cd_44_118 : qa_code 44 118 = some (18, 33, 2, 121, 35) := by decide +kernel
theorem cd_44_121 : qa_code 44 121 = some (17, 0, 0, 142, 0) := by decide +kernel
theorem cd_44_124 : qa_code 44 124 = some (1, 1, 0, 125, 0) := by decide +kernel
theorem cd_44_125 : qa_code 44 125 = some (0, 0, 8, 127, 0) := by decide +kernel
theorem cd_44_127 : qa_code 44 127 = some (15, 1, 138, 130, 0) := by decide +kernel
theorem cd_44_130 : qa_code 44 130 = some (2, 0, 0, 131, 0) := by decide +kernel
theorem cd_44_131 : qa_code 44 131 = some (1, 2, 0, 132, 0) := by decide +kernel
theorem cd_44_132 : qa_code 44 132 = some (18, 35, 2, 135, 38) := by decide +kernel
theorem cd_44_135 : qa_code 44 135 = some (17, 0, 0, 142, 0) := by decide +kernel
theorem cd_44_143 : qa_code 44 143 = some (4, 8, 0, 145, 0) := by decide +kernel
theorem cd_44_145 : qa_code 44 145 = some (0, 0, -3000, 148, 0) := by decide +kernel
theorem cd_44_148 : qa_code 44 148 = some (19, 0, 0, 148, 0) := by decide +kernel
theorem cd_44_149 : qa_code 44 149 = some (4, 8, 0, 151, 0) := by decide +kernel
theorem cd_44_151 : qa_code 44 151 = some (0, 0, -2000, 154, 0) := by decide +kernel
theorem cd_44_154 : qa_code 44 154 = some (19, 0, 0, 154, 0) := by decide +kernel
theorem cd_45_0 : qa_code 45 0 = some (1, 1, 0, 1, 0) := by decide +kernel
theorem cd_45_1 : qa_code 45 1 = some (16, 1, 15, 4, 0) := by decide +kernel
theorem cd_45_4 : qa_code 45 4 = some (2, 0, 0, 5, 0) := by decide +kernel
theorem cd_45_5 : qa_code 45 5 = some (1, 2, 0, 6, 0) := by decide +kernel
theorem cd_45_6 : qa_code 45 6 = some (1, 3, 0, 7, 0) := by decide +kernel
theorem cd_45_7 : qa_code 45 7 = some (1, 4, 0, 9, 0) := by decide +kernel
theorem cd_45_9 : qa_code 45 9 = some (18, 21, 4, 12, 51) := by decide +kernel
theorem cd_45_12 : qa_code 45 12 = some (17, 0, 0, 131, 0) := by decide +kernel
theorem cd_45_15 : qa_code 45 15 = some (1, 1, 0, 16, 0) := by decide +kernel
theorem cd_45_16 : qa_code 45 16 = some (0, 0, 1, 17, 0) := by decide +kernel
theorem cd_45_17 : qa_code 45 17 = some (15, 1, 31, 20, 0) := by decide +kernel
theorem cd_45_31 : qa_code 45 31 = some (1, 1, 0, 32, 0) := by decide +kernel
theorem cd_45_32 : qa_code 45 32 = some (0, 0, 2, 33, 0) := by decide +kernel
theorem cd_45_33 : qa_code 45 33 = some (15, 1, 44, 36, 0) := by decide +kernel
theorem cd_45_36 : qa_code 45 36 = some (2, 0, 0, 37, 0) := by decide +kernel
theorem cd_45_37 : qa_code 45 37 = some (1, 2, 0, 38, 0) := by decide +kernel
theorem cd_45_38 : qa_code 45 38 = some (18, 22, 2, 41, 57) := by decide +kernel
theorem cd_45_41 : qa_code 45 41 = some (17, 0, 0, 131, 0) := by decide +kernel
theorem cd_45_44 : qa_code 45 44 = some (1, 1, 0, 45, 0) := by decide +kernel
theorem cd_45_45 : qa_code 45 45 = some (0, 0, 3, 46, 0) := by decide +kernel
theorem cd_45_46 : qa_code 45 46 = some (15, 1, 58, 49, 0) := by decide +kernel
theorem cd_45_49 : qa_code 45 49 = some (2, 0, 0, 50, 0) := by decide +kernel
theorem cd_45_50 : qa_code 45 50 = some (1, 2, 0, 51, 0) := by decide +kernel
theorem cd_45_51 : qa_code 45 51 = some (1, 3, 0, 52, 0) := by decide +kernel
theorem cd_45_52 : qa_code 45 52 = some (18, 23, 3, 55, 60) := by decide +kernel
theorem cd_45_55 : qa_code 45 55 = some (17, 0, 0, 131, 0) := by decide +kernel
theorem cd_45_58 : qa_code 45 58 = some (1, 1, 0, 59, 0) := by decide +kernel
theorem cd_45_59 : qa_code 45 59 = some (0, 0, 4, 60, 0) := by decide +kernel
theorem cd_45_60 : qa_code 45 60 = some (15, 1, 71, 63, 0) := by decide +kernel
theorem cd_45_63 : qa_code 45 63 = some (2, 0, 0, 64, 0) := by decide +kernel
theorem cd_45_64 : qa_code 45 64 = some (1, 2, 0, 65, 0) := by decide +kernel
theorem cd_45_65 : qa_code 45 65 = some (18, 24, 2, 68, 63) := by decide +kernel
theorem cd_45_68 : qa_code 45 68 = some (17, 0, 0, 131, 0) := by decide +kernel
theorem cd_45_71 : qa_code 45 71 = some (1, 1, 0, 72, 0) := by decide +kernel
theorem cd_45_72 : qa_code 45 72 = some (0, 0, 5, 73, 0) := by decide +kernel
theorem cd_45_73 : qa_code 45 73 = some (15, 1, 84, 76, 0) := by decide +kernel
theorem cd_45_76 : qa_code 45 76 = some (2, 0, 0, 77, 0) := by decide +kernel
theorem cd_45_77 : qa_code 45 77 = some (1, 2, 0, 78, 0) := by decide +kernel
theorem cd_45_78 : qa_code 45 78 = some (18, 27, 2, 81, 66) := by decide +kernel
theorem cd_45_81 : qa_code 45 81 = some (17, 0, 0, 131, 0) := by decide +kernel
theorem cd_45_84 : qa_code 45 84 = some (1, 1, 0, 85, 0) := by decide +kernel
theorem cd_45_85 : qa_code 45 85 = some (0, 0, 6, 87, 0) := by decide +kernel
theorem cd_45_87 : qa_code 45 87 = some (15, 1, 98, 90, 0) := by decide +kernel
theorem cd_45_90 : qa_code 45 90 = some (2, 0, 0, 91, 0) := by decide +kernel
theorem cd_45_91 : qa_code 45 91 = some (1, 2, 0, 92, 0) := by decide +kernel
theorem cd_45_92 : qa_code 45 92 = some (18, 28, 2, 95, 69) := by decide +kernel
theorem cd_45_95 : qa_code 45 95 = some (17, 0, 0, 131, 0) := by decide +kernel
theorem cd_45_98 : qa_code 45 98 = some (1, 1, 0, 99, 0) := by decide +kernel
theorem cd_45_99 : qa_code 45 99 = some (0, 0, 7, 101, 0) := by decide +kernel
theorem cd_45_101 : qa_code 45 101 = some (15, 1, 112, 104, 0) := by decide +kernel
theorem cd_45_104 : qa_code 45 104 = some (2, 0, 0, 105, 0) := by decide +kernel
theorem cd_45_105 : qa_code 45 105 = some (1, 2, 0, 106, 0) := by decide +kernel
theorem cd_45_106 : qa_code 45 106 = some (18, 34, 2, 109, 72) := by decide +kernel
theorem cd_45_109 : qa_code 45 109 = some (17, 0, 0, 131, 0) := by decide +kernel
theorem cd_45_112 : qa_code 45 112 = some (1, 1, 0, 113, 0) := by decide +kernel
theorem cd_45_113 : qa_code 45 113 = some (0, 0, 8, 115, 0) := by decide +kernel
theorem cd_45_115 : qa_code 45 115 = some (15, 1, 126, 118, 0) := by decide +kernel
theorem cd_45_118 : qa_code 45 118 = some (2, 0, 0, 119, 0) := by decide +kernel
theorem cd_45_119 : qa_code 45 119 = some (1, 2, 0, 120, 0) := by decide +kernel
theorem cd_45_120 : qa_code 45 120 = some (18, 36, 2, 123, 75) := by decide +kernel
theorem cd_45_123 : qa_code 45 123 = some (17, 0, 0, 131, 0) := by decide +kernel
theorem cd_45_126 : qa_code 45 126 = some (2, 0, 0, 127, 0) := by decide +kernel
theorem cd_45_127 : qa_code 45 127 = some (1, 2, 0, 128, 0) := by decide +kernel
theorem cd_45_128 : qa_code 45 128 = some (18, 37, 2, 131, 78) := by decide +kernel
theorem cd_45_131 : qa_code 45 131 = some (19, 0, 0, 131, 0) := by decide +kernel
theorem cd_45_132 : qa_code 45 132 = some (4, 5, 0, 134, 0) := by decide +kernel
theorem cd_45_134 : qa_code 45 134 = some (0, 0, -3000, 137, 0) := by decide +kernel
theorem cd_45_137 : qa_code 45 137 = some (19, 0, 0, 137, 0) := by decide +kernel
theorem cd_46_0 : qa_code 46 0 = some (1, 2, 0, 1, 0) := by decide +kernel
theorem cd_46_1 : qa_code 46 1 = some (0, 0, 60, 3, 0) := by decide +kernel
theorem cd_46_3 : qa_code 46 3 = some (15, 3, 12, 6, 0) := by decide +kernel
theorem cd_46_6 : qa_code 46 6 = some (2, 0, 0, 7, 0) := by decide +kernel
theorem cd_46_7 : qa_code 46 7 = some (1, 2, 0, 8, 0) := by decide +kernel
theorem cd_46_8 : qa_code 46 8 = some (24, 0, 0, 9, 0) := by decide +kernel
theorem cd_46_9 : qa_code 46 9 = some (17, 0, 0, 18, 0) := by decide +kernel
theorem cd_46_12 : qa_code 46 12 = some (2, 1, 0, 13, 0) := by decide +kernel
theorem cd_46_13 : qa_code 46 13 = some (1, 2, 0, 14, 0) := by decide +kernel
theorem cd_46_14 : qa_code 46 14 = some (0, 0, 60, 16, 0) := by decide +kernel
theorem cd_46_16 : qa_code 46 16 = some (6, 2, 0, 17, 0) := by decide +kernel
theorem cd_46_17 : qa_code 46 17 = some (24, 0, 0, 18, 0) := by decide +kernel
theorem cd_46_18 : qa_code 46 18 = some (32, 0, 0, 18, 0) := by decide +kernel
theorem cd_47_0 : qa_code 47 0 = some (0, 0, 0, 1, 0) := by decide +kernel
theorem cd_47_1 : qa_code 47 1 = some (3, 3, 0, 2, 0) := by decide +kernel
theorem cd_47_2 : qa_code 47 2 = some (0, 0, 0, 3, 0) := by decide +kernel
theorem cd_47_3 : qa_code 47 3 = some (3, 4, 0, 5, 0) := by decide +kernel
theorem cd_47_5 : qa_code 47 5 = some (1, 4, 0, 7, 0) := by decide +kernel
theorem cd_47_7 : qa_code 47 7 = some (2, 1, 0, 8, 0) := by decide +kernel
theorem cd_47_8 : qa_code 47 8 = some (0, 0, 2, 9, 0) := by decide +kernel
theorem cd_47_9 : qa_code 47 9 = some (10, 0, 0, 10, 0) := by decide +kernel
theorem cd_47_10 : qa_code 47 10 = some (15, 3, 48, 13, 0) := by decide +kernel
theorem cd_47_48 : qa_code 47 48 = some (1, 3, 0, 49, 0) := by decide +kernel
theorem cd_47_49 : qa_code 47 49 = some (19, 1, 0, 49, 0) := by decide +kernel
theorem cd_48_0 : qa_code 48 0 = some (0, 0, 0, 1, 0) := by decide +kernel
theorem cd_48_1 : qa_code 48 1 = some (3, 4, 0, 3, 0) := by decide +kernel
theorem cd_48_3 : qa_code 48 3 = some (0, 0, 0, 4, 0) := by decide +kernel
theorem cd_48_4 : qa_code 48 4 = some (3, 5, 0, 6, 0) := by decide +kernel
theorem cd_48_6 : qa_code 48 6 = some (1, 5, 0, 8, 0) := by decide +kernel
theorem cd_48_8 : qa_code 48 8 = some (0, 0, 3, 9, 0) := by decide +kernel
theorem cd_48_9 : qa_code 48 9 = some (2, 2, 0, 10, 0) := by decide +kernel
theorem cd_48_10 : qa_code 48 10 = some (0, 0, 0, 11, 0) := by decide +kernel
theorem cd_48_11 : qa_code 48 11 = some (10, 0, 0, 12, 0) := by decide +kernel
theorem cd_48_12 : qa_code 48 12 = some (6, 3, 0, 13, 0) := by decide +kernel
theorem cd_48_13 : qa_code 48 13 = some (15, 3, 115, 16, 0) := by decide +kernel
theorem cd_48_115 : qa_code 48 115 = some (1, 4, 0, 117, 0) := by decide +kernel
theorem cd_48_117 : qa_code 48 117 = some (19, 0, 0, 117, 0) := by decide +kernel
theorem cd_49_0 : qa_code 49 0 = some (0, 0, 0, 1, 0) := by decide +kernel
theorem cd_49_1 : qa_code 49 1 = some (3, 5, 0, 3, 0) := by decide +kernel
theorem cd_49_3 : qa_code 49 3 = some (0, 0, 0, 4, 0) := by decide +kernel
theorem cd_49_4 : qa_code 49 4 = some (3, 6, 0, 6, 0) := by decide +kernel
theorem cd_49_6 : qa_code 49 6 = some (1, 6, 0, 8, 0) := by decide +kernel
theorem cd_49_8 : qa_code 49 8 = some (2, 3, 0, 9, 0) := by decide +kernel
theorem cd_49_9 : qa_code 49 9 = some (0, 0, 2, 10, 0) := by decide +kernel
theorem cd_49_10 : qa_code 49 10 = some (10, 0, 0, 11, 0) := by decide +kernel
theorem cd_49_11 : qa_code 49 11 = some (15, 3, 62, 14, 0) := by decide +kernel
theorem cd_49_62 : qa_code 49 62 = some (1, 5, 0, 64, 0) := by decide +kernel
theorem cd_49_64 : qa_code 49 64 = some (0, 0, 24, 66, 0) := by decide +kernel
theorem cd_49_66 : qa_code 49 66 = some (6, 4, 0, 67, 0) := by decide +kernel
theorem cd_49_67 : qa_code 49 67 = some (19, 0, 0, 67, 0) := by decide +kernel
theorem cd_50_0 : qa_code 50 0 = some (0, 0, 0, 1, 0) := by decide +kernel
theorem cd_50_1 : qa_code 50 1 = some (3, 2, 0, 2, 0) := by decide +kernel
theorem cd_50_2 : qa_code 50 2 = some (0, 0, 0, 3, 0) := by decide +kernel
theorem cd_50_3 : qa_code 50 3 = some (3, 3, 0, 4, 0) := by decide +kernel
theorem cd_50_4 : qa_code 50 4 = some (1, 3, 0, 5, 0) := by decide +kernel
theorem cd_50_5 : qa_code 50 5 = some (2, 1, 0, 6, 0) := by decide +kernel
theorem cd_50_6 : qa_code 50 6 = some (0, 0, 2, 7, 0) := by decide +kernel
theorem cd_50_7 : qa_code 50 7 = some (10, 0, 0, 8, 0) := by decide +kernel
theorem cd_50_8 : qa_code 50 8 = some (15, 3, 32, 11, 0) := by decide +kernel
theorem cd_50_32 : qa_code 50 32 = some (1, 2, 0, 33, 0) := by decide +kernel
theorem cd_50_33 : qa_code 50 33 = some (19, 0, 0, 33, 0) := by decide +kernel
theorem cd_51_0 : qa_code 51 0 = some (2, 0, 0, 1, 0) := by decide +kernel
theorem cd_51_1 : qa_code 51 1 = some (0, 0, 0, 2, 0) := by decide +kernel
theorem cd_51_2 : qa_code 51 2 = some (2, 5, 0, 4, 0) := by decide +kernel
theorem cd_51_4 : qa_code 51 4 = some (0, 0, 0, 5, 0) := by decide +kernel
theorem cd_51_5 : qa_code 51 5 = some (10, 0, 0, 6, 0) := by decide +kernel
theorem cd_51_6 : qa_code 51 6 = some (0, 0, 0, 7, 0) := by decide +kernel
theorem cd_51_7 : qa_code 51 7 = some (0, 0, 0, 8, 0) := by decide +kernel
theorem cd_51_8 : qa_code 51 8 = some (18, 45, 5, 11, 108) := by decide +kernel
theorem cd_51_11 : qa_code 51 11 = some (0, 0, -3000, 14, 0) := by decide +kernel
theorem cd_51_14 : qa_code 51 14 = some (15, 1, 110, 17, 0) := by decide +kernel
theorem cd_51_17 : qa_code 51 17 = some (2, 0, 0, 18, 0) := by decide +kernel
theorem cd_51_18 : qa_code 51 18 = some (0, 0, 0, 19, 0) := by decide +kernel
theorem cd_51_19 : qa_code 51 19 = some (0, 0, 0, 20, 0) := by decide +kernel
theorem cd_51_20 : qa_code 51 20 = some (0, 0, 3, 21, 0) := by decide +kernel
theorem cd_51_21 : qa_code 51 21 = some (0, 0, 0, 22, 0) := by decide +kernel
theorem cd_51_22 : qa_code 51 22 = some (18, 45, 5, 25, 108) := by decide +kernel
theorem cd_51_25 : qa_code 51 25 = some (0, 0, -3000, 28, 0) := by decide +kernel
theorem cd_51_28 : qa_code 51 28 = some (15, 1, 110, 31, 0) := by decide +kernel
theorem cd_51_31 : qa_code 51 31 = some (2, 0, 0, 32, 0) := by decide +kernel
theorem cd_51_32 : qa_code 51 32 = some (0, 0, 0, 33, 0) := by decide +kernel
theorem cd_51_33 : qa_code 51 33 = some (0, 0, 0, 34, 0) := by decide +kernel
theorem cd_51_34 : qa_code 51 34 = some (0, 0, 0, 35, 0) := by decide +kernel
theorem cd_51_35 : qa_code 51 35 = some (0, 0, 120, 37, 0) := by decide +kernel
theorem cd_51_37 : qa_code 51 37 = some (18, 45, 5, 40, 108) := by decide +kernel
theorem cd_51_40 : qa_code 51 40 = some (0, 0, -3000, 43, 0) := by decide +kernel
theorem cd_51_43 : qa_code 51 43 = some (15, 1, 110, 46, 0) := by decide +kernel
theorem cd_51_46 : qa_code 51 46 = some (2, 0, 0, 47, 0) := by decide +kernel
theorem cd_51_47 : qa_code 51 47 = some (0, 0, 2, 48, 0) := by decide +kernel
theorem cd_51_48 : qa_code 51 48 = some (2, 5, 0, 50, 0) := by decide +kernel
theorem cd_51_50 : qa_code 51 50 = some (0, 0, 1, 51, 0) := by decide +kernel
theorem cd_51_51 : qa_code 51 51 = some (10, 0, 0, 52, 0) := by decide +kernel
theorem cd_51_52 : qa_code 51 52 = some (0, 0, 0, 53, 0) := by decide +kernel
theorem cd_51_53 : qa_code 51 53 = some (0, 0, 0, 54, 0) := by decide +kernel
theorem cd_51_54 : qa_code 51 54 = some (18, 45, 5, 57, 108) := by decide +kernel
theorem cd_51_57 : qa_code 51 57 = some (0, 0, -3000, 60, 0) := by decide +kernel
theorem cd_51_60 : qa_code 51 60 = some (15, 1, 110, 63, 0) := by decide +kernel
theorem cd_51_63 : qa_code 51 63 = some (2, 0, 0, 64, 0) := by decide +kernel
theorem cd_51_64 : qa_code 51 64 = some (0, 0, 2, 65, 0) := by decide +kernel
theorem cd_51_65 : qa_code 51 65 = some (0, 0, -1, 66, 0) := by decide +kernel
theorem cd_51_66 : qa_code 51 66 = some (0, 0, 0, 67, 0) := by decide +kernel
theorem cd_51_67 : qa_code 51 67 = some (0, 0, 0, 68, 0) := by decide +kernel
theorem cd_51_68 : qa_code 51 68 = some (18, 45, 5, 71, 108) := by decide +kernel
theorem cd_51_71 : qa_code 51 71 = some (0, 0, -3000, 74, 0) := by decide +kernel
theorem cd_51_74 : qa_code 51 74 = some (15, 1, 110, 77, 0) := by decide +kernel
theorem cd_51_77 : qa_code 51 77 = some (2, 0, 0, 78, 0) := by decide +kernel
theorem cd_51_78 : qa_code 51 78 = some (0, 0, 3, 79, 0) := by decide +kernel
theorem cd_51_79 : qa_code 51 79 = some (0, 0, -1, 80, 0) := by decide +kernel
theorem cd_51_80 : qa_code 51 80 = some (0, 0, 0, 81, 0) := by decide +kernel
theorem cd_51_81 : qa_code 51 81 = some (0, 0, 0, 82, 0) := by decide +kernel
theorem cd_51_82 : qa_code 51 82 = some (18, 45, 5, 85, 108) := by decide +kernel
theorem cd_51_85 : qa_code 51 85 = some (0, 0, -3000, 88, 0) := by decide +kernel
theorem cd_51_88 : qa_code 51 88 = some (15, 1, 110, 91, 0) := by decide +kernel
theorem cd_51_91 : qa_code 51 91 = some (2, 0, 0, 92, 0) := by decide +kernel
theorem cd_51_92 : qa_code 51 92 = some (0, 0, 4, 93, 0) := by decide +kernel
theorem cd_51_93 : qa_code 51 93 = some (0, 0, 120, 95, 0) := by decide +kernel
theorem cd_51_95 : qa_code 51 95 = some (0, 0, 0, 96, 0) := by decide +kernel
theorem cd_51_96 : qa_code 51 96 = some (0, 0, 0, 97, 0) := by decide +kernel
theorem cd_51_97 : qa_code 51 97 = some (18, 45, 5, 100, 108) := by decide +kernel
theorem cd_51_100 : qa_code 51 100 = some (0, 0, -3000, 103, 0) := by decide +kernel
theorem cd_51_103 : qa_code 51 103 = some (15, 1, 110, 106, 0) := by decide +kernel
theorem cd_51_106 : qa_code 51 106 = some (0, 0, 1, 107, 0) := by decide +kernel
theorem cd_51_107 : qa_code 51 107 = some (17, 0, 0, 111, 0) := by decide +kernel
theorem cd_51_110 : qa_code 51 110 = some (0, 0, 0, 111, 0) := by decide +kernel
theorem cd_51_111 : qa_code 51 111 = some (3, 7, 0, 113, 0) := by decide +kernel
theorem cd_51_113 : qa_code 51 113 = some (0, 0, 0, 114, 0) := by decide +kernel
theorem cd_51_114 : qa_code 51 114 = some (3, 8, 0, 116, 0) := by decide +kernel
theorem cd_51_116 : qa_code 51 116 = some (1, 8, 0, 118, 0) := by decide +kernel
theorem cd_51_118 : qa_code 51 118 = some (0, 0, 3, 119, 0) := by decide +kernel
theorem cd_51_119 : qa_code 51 119 = some (2, 5, 0, 121, 0) := by decide +kernel
theorem cd_51_121 : qa_code 51 121 = some (0, 0, 0, 122, 0) := by decide +kernel
theorem cd_51_122 : qa_code 51 122 = some (10, 0, 0, 123, 0) := by decide +kernel
theorem cd_51_123 : qa_code 51 123 = some (6, 3, 0, 124, 0) := by decide +kernel
theorem cd_51_124 : qa_code 51 124 = some (15, 3, 174, 127, 0) := by decide +kernel
theorem cd_51_174 : qa_code 51 174 = some (0, 0, 0, 175, 0) := by decide +kernel
theorem cd_51_175 : qa_code 51 175 = some (3, 8, 0, 177, 0) := by decide +kernel
theorem cd_51_177 : qa_code 51 177 = some (1, 8, 0, 179, 0) := by decide +kernel
theorem cd_51_179 : qa_code 51 179 = some (2, 5, 0, 181, 0) := by decide +kernel
theorem cd_51_181 : qa_code 51 181 = some (0, 0, 0, 182, 0) := by decide +kernel
theorem cd_51_182 : qa_code 51 182 = some (10, 0, 0, 183, 0) := by decide +kernel
theorem cd_51_183 : qa_code 51 183 = some (15, 3, 229, 186, 0) := by decide +kernel
theorem cd_51_229 : qa_code 51 229 = some (0, 0, 0, 230, 0) := by decide +kernel
theorem cd_51_230 : qa_code 51 230 = some (3, 8, 0, 232, 0) := by decide +kernel
theorem cd_51_232 : qa_code 51 232 = some (1, 8, 0, 234, 0) := by decide +kernel
theorem cd_51_234 : qa_code 51 234 = some (2, 5, 0, 236, 0) := by decide +kernel
theorem cd_51_236 : qa_code 51 236 = some (0, 0, 1, 237, 0) := by decide +kernel
theorem cd_51_237 : qa_code 51 237 = some (10, 0, 0, 238, 0) := by decide +kernel
theorem cd_51_238 : qa_code 51 238 = some (15, 3, 446, 241, 0) := by decide +kernel
theorem cd_51_446 : qa_code 51 446 = some (1, 7, 0, 448, 0) := by decide +kernel
theorem cd_51_448 : qa_code 51 448 = some (16, 0, 473, 451, 0) := by decide +kernel
theorem cd_51_451 : qa_code 51 451 = some (2, 0, 0, 452, 0) := by decide +kernel
theorem cd_51_452 : qa_code 51 452 = some (1, 6, 0, 454, 0) := by decide +kernel
theorem cd_51_454 : qa_code 51 454 = some (18, 24, 2, 457, 63) := by decide +kernel
theorem cd_51_457 : qa_code 51 457 = some (2, 1, 0, 458, 0) := by decide +kernel
theorem cd_51_458 : qa_code 51 458 = some (2, 3, 0, 459, 0) := by decide +kernel
theorem cd_51_459 : qa_code 51 459 = some (2, 5, 0, 461, 0) := by decide +kernel
theorem cd_51_461 : qa_code 51 461 = some (1, 6, 0, 463, 0) := by decide +kernel
theorem cd_51_463 : qa_code 51 463 = some (18, 48, 4, 466, 105) := by decide +kernel
theorem cd_51_466 : qa_code 51 466 = some (15, 1, 473, 469, 0) := by decide +kernel
theorem cd_51_469 : qa_code 51 469 = some (0, 0, 1, 470, 0) := by decide +kernel
theorem cd_51_470 : qa_code 51 470 = some (17, 0, 0, 474, 0) := by decide +kernel
theorem cd_51_473 : qa_code 51 473 = some (0, 0, 0, 474, 0) := by decide +kernel
theorem cd_51_474 : qa_code 51 474 = some (19, 1, 0, 474, 0) := by decide +kernel
theorem cd_52_0 : qa_code 52 0 = some (0, 0, 0, 1, 0) := by decide +kernel
theorem cd_52_1 : qa_code 52 1 = some (3, 9, 0, 3, 0) := by decide +kernel
theorem cd_52_3 : qa_code 52 3 = some (2, 0, 0, 4, 0) := by decide +kernel
theorem cd_52_4 : qa_code 52 4 = some (0, 0, 6, 6, 0) := by decide +kernel
theorem cd_52_6 : qa_code 52 6 = some (0, 0, 120, 8, 0) := by decide +kernel
theorem cd_52_8 : qa_code 52 8 = some (0, 0, 0, 9, 0) := by decide +kernel
theorem cd_52_9 : qa_code 52 9 = some (0, 0, 0, 10, 0) := by decide +kernel
theorem cd_52_10 : qa_code 52 10 = some (18, 45, 5, 13, 108) := by decide +kernel
theorem cd_52_13 : qa_code 52 13 = some (0, 0, -3000, 16, 0) := by decide +kernel
theorem cd_52_16 : qa_code 52 16 = some (15, 1, 38, 19, 0) := by decide +kernel
theorem cd_52_19 : qa_code 52 19 = some (2, 0, 0, 20, 0) := by decide +kernel
theorem cd_52_20 : qa_code 52 20 = some (0, 0, 6, 22, 0) := by decide +kernel
theorem cd_52_22 : qa_code 52 22 = some (0, 0, -1, 23, 0) := by decide +kernel
theorem cd_52_23 : qa_code 52 23 = some (0, 0, 0, 24, 0) := by decide +kernel
theorem cd_52_24 : qa_code 52 24 = some (0, 0, 0, 25, 0) := by decide +kernel
theorem cd_52_25 : qa_code 52 25 = some (18, 45, 5, 28, 108) := by decide +kernel
theorem cd_52_28 : qa_code 52 28 = some (0, 0, -3000, 31, 0) := by decide +kernel
theorem cd_52_31 : qa_code 52 31 = some (15, 1, 38, 34, 0) := by decide +kernel
theorem cd_52_34 : qa_code 52 34 = some (0, 0, 1, 35, 0) := by decide +kernel
theorem cd_52_35 : qa_code 52 35 = some (17, 0, 0, 39, 0) := by decide +kernel
theorem cd_52_38 : qa_code 52 38 = some (0, 0, 0, 39, 0) := by decide +kernel
theorem cd_52_39 : qa_code 52 39 = some (3, 10, 0, 41, 0) := by decide +kernel
theorem cd_52_41 : qa_code 52 41 = some (0, 0, 0, 42, 0) := by decide +kernel
theorem cd_52_42 : qa_code 52 42 = some (3, 11, 0, 44, 0) := by decide +kernel
theorem cd_52_44 : qa_code 52 44 = some (1, 11, 0, 46, 0) := by decide +kernel
theorem cd_52_46 : qa_code 52 46 = some (0, 0, 120, 48, 0) := by decide +kernel
theorem cd_52_48 : qa_code 52 48 = some (15, 3, 181, 51, 0) := by decide +kernel
theorem cd_52_51 : qa_code 52 51 = some (1, 10, 0, 53, 0) := by decide +kernel
theorem cd_52_53 : qa_code 52 53 = some (16, 0, 181, 56, 0) := by decide +kernel
theorem cd_52_56 : qa_code 52 56 = some (2, 6, 0, 58, 0) := by decide +kernel
theorem cd_52_58 : qa_code 52 58 = some (2, 7, 0, 60, 0) := by decide +kernel
theorem cd_52_60 : qa_code 52 60 = some (1, 11, 0, 62, 0) := by decide +kernel
theorem cd_52_62 : qa_code 52 62 = some (18, 46, 3, 65, 97) := by decide +kernel
theorem cd_52_65 : qa_code 52 65 = some (29, 12, 0, 67, 0) := by decide +kernel
theorem cd_52_67 : qa_code 52 67 = some (30, 12, 0, 69, 0) := by decide +kernel
theorem cd_52_69 : qa_code 52 69 = some (31, 0, 0, 70, 0) := by decide +kernel
theorem cd_52_70 : qa_code 52 70 = some (25, 0, 0, 71, 0) := by decide +kernel
theorem cd_52_71 : qa_code 52 71 = some (16, 2, 94, 74, 0) := by decide +kernel
theorem cd_52_94 : qa_code 52 94 = some (0, 0, 0, 95, 0) := by decide +kernel
theorem cd_52_95 : qa_code 52 95 = some (3, 14, 0, 97, 0) := by decide +kernel
theorem cd_52_97 : qa_code 52 97 = some (1, 9, 0, 99, 0) := by decide +kernel
theorem cd_52_99 : qa_code 52 99 = some (30, 12, 0, 101, 0) := by decide +kernel
theorem cd_52_101 : qa_code 52 101 = some (31, 0, 0, 102, 0) := by decide +kernel
theorem cd_52_102 : qa_code 52 102 = some (25, 0, 0, 103, 0) := by decide +kernel
theorem cd_52_103 : qa_code 52 103 = some (16, 2, 115, 106, 0) := by decide +kernel
theorem cd_52_106 : qa_code 52 106 = some (1, 14, 0, 108, 0) := by decide +kernel
theorem cd_52_108 : qa_code 52 108 = some (16, 1, 115, 111, 0) := by decide +kernel
theorem cd_52_111 : qa_code 52 111 = some (0, 0, 1, 112, 0) := by decide +kernel
theorem cd_52_112 : qa_code 52 112 = some (17, 0, 0, 116, 0) := by decide +kernel
theorem cd_52_115 : qa_code 52 115 = some (0, 0, 0, 116, 0) := by decide +kernel
theorem cd_52_116 : qa_code 52 116 = some (6, 0, 0, 117, 0) := by decide +kernel
theorem cd_52_117 : qa_code 52 117 = some (3, 9, 0, 119, 0) := by decide +kernel
theorem cd_52_119 : qa_code 52 119 = some (2, 0, 0, 120, 0) := by decide +kernel
theorem cd_52_120 : qa_code 52 120 = some (1, 11, 0, 122, 0) := by decide +kernel
theorem cd_52_122 : qa_code 52 122 = some (18, 28, 2, 125, 69) := by decide +kernel
theorem cd_52_125 : qa_code 52 125 = some (30, 12, 0, 127, 0) := by decide +kernel
theorem cd_52_127 : qa_code 52 127 = some (31, 0, 0, 128, 0) := by decide +kernel
theorem cd_52_128 : qa_code 52 128 = some (25, 0, 0, 129, 0) := by decide +kernel
theorem cd_52_129 : qa_code 52 129 = some (16, 3, 136, 132, 0) := by decide +kernel
theorem cd_52_132 : qa_code 52 132 = some (0, 0, 0, 133, 0) := by decide +kernel
theorem cd_52_133 : qa_code 52 133 = some (17, 0, 0, 146, 0) := by decide +kernel
theorem cd_52_136 : qa_code 52 136 = some (1, 14, 0, 138, 0) := by decide +kernel
theorem cd_52_138 : qa_code 52 138 = some (16, 0, 145, 141, 0) := by decide +kernel
theorem cd_52_141 : qa_code 52 141 = some (0, 0, 1, 142, 0) := by decide +kernel
theorem cd_52_142 : qa_code 52 142 = some (17, 0, 0, 146, 0) := by decide +kernel
theorem cd_52_145 : qa_code 52 145 = some (0, 0, 2, 146, 0) := by decide +kernel
theorem cd_52_146 : qa_code 52 146 = some (2, 4, 0, 148, 0) := by decide +kernel
theorem cd_52_148 : qa_code 52 148 = some (2, 5, 0, 150, 0) := by decide +kernel
theorem cd_52_150 : qa_code 52 150 = some (1, 11, 0, 152, 0) := by decide +kernel
theorem cd_52_152 : qa_code 52 152 = some (18, 47, 3, 155, 115) := by decide +kernel
theorem cd_52_155 : qa_code 52 155 = some (16, 0, 163, 158, 0) := by decide +kernel
theorem cd_52_158 : qa_code 52 158 = some (0, 0, 10, 160, 0) := by decide +kernel
theorem cd_52_160 : qa_code 52 160 = some (17, 0, 0, 164, 0) := by decide +kernel
theorem cd_52_163 : qa_code 52 163 = some (0, 0, 0, 164, 0) := by decide +kernel
theorem cd_52_164 : qa_code 52 164 = some (6, 0, 0, 165, 0) := by decide +kernel
theorem cd_52_165 : qa_code 52 165 = some (15, 1, 172, 168, 0) := by decide +kernel
theorem cd_52_168 : qa_code 52 168 = some (0, 0, 1, 169, 0) := by decide +kernel
theorem cd_52_169 : qa_code 52 169 = some (17, 0, 0, 173, 0) := by decide +kernel
theorem cd_52_172 : qa_code 52 172 = some (0, 0, 0, 173, 0) := by decide +kernel
theorem cd_52_173 : qa_code 52 173 = some (3, 10, 0, 175, 0) := by decide +kernel
theorem cd_52_175 : qa_code 52 175 = some (5, 11, 1, 178, 0) := by decide +kernel
theorem cd_52_178 : qa_code 52 178 = some (17, 0, 0, 44, 0) := by decide +kernel
theorem cd_52_181 : qa_code 52 181 = some (2, 4, 0, 183, 0) := by decide +kernel
theorem cd_52_183 : qa_code 52 183 = some (2, 5, 0, 185, 0) := by decide +kernel
theorem cd_52_185 : qa_code 52 185 = some (18, 50, 2, 188, 119) := by decide +kernel
theorem cd_52_188 : qa_code 52 188 = some (3, 11, 0, 190, 0) := by decide +kernel
theorem cd_52_190 : qa_code 52 190 = some (1, 11, 0, 192, 0) := by decide +kernel
theorem cd_52_192 : qa_code 52 192 = some (16, 1, 199, 195, 0) := by decide +kernel
theorem cd_52_195 : qa_code 52 195 = some (0, 0, 0, 196, 0) := by decide +kernel
theorem cd_52_196 : qa_code 52 196 = some (17, 0, 0, 204, 0) := by decide +kernel
theorem cd_52_204 : qa_code 52 204 = some (3, 12, 0, 206, 0) := by decide +kernel
theorem cd_52_206 : qa_code 52 206 = some (0, 0, 0, 207, 0) := by decide +kernel
theorem cd_52_207 : qa_code 52 207 = some (3, 13, 0, 209, 0) := by decide +kernel
theorem cd_52_209 : qa_code 52 209 = some (1, 13, 0, 211, 0) := by decide +kernel
theorem cd_52_211 : qa_code 52 211 = some (2, 5, 0, 213, 0) := by decide +kernel
theorem cd_52_213 : qa_code 52 213 = some (0, 0, 2, 214, 0) := by decide +kernel
theorem cd_52_214 : qa_code 52 214 = some (10, 0, 0, 215, 0) := by decide +kernel
theorem cd_52_215 : qa_code 52 215 = some (15, 3, 264, 218, 0) := by decide +kernel
theorem cd_52_264 : qa_code 52 264 = some (1, 10, 0, 266, 0) := by decide +kernel
theorem cd_52_266 : qa_code 52 266 = some (16, 0, 345, 269, 0) := by decide +kernel
theorem cd_52_269 : qa_code 52 269 = some (2, 0, 0, 270, 0) := by decide +kernel
theorem cd_52_270 : qa_code 52 270 = some (18, 29, 1, 273, 123) := by decide +kernel
theorem cd_52_273 : qa_code 52 273 = some (1, 9, 0, 275, 0) := by decide +kernel
theorem cd_52_275 : qa_code 52 275 = some (15, 1, 345, 278, 0) := by decide +kernel
theorem cd_52_278 : qa_code 52 278 = some (2, 0, 0, 279, 0) := by decide +kernel
theorem cd_52_279 : qa_code 52 279 = some (18, 30, 1, 282, 126) := by decide +kernel
theorem cd_52_282 : qa_code 52 282 = some (1, 9, 0, 284, 0) := by decide +kernel
theorem cd_52_284 : qa_code 52 284 = some (15, 1, 345, 287, 0) := by decide +kernel
theorem cd_52_287 : qa_code 52 287 = some (2, 0, 0, 288, 0) := by decide +kernel
theorem cd_52_288 : qa_code 52 288 = some (0, 0, 5, 289, 0) := by decide +kernel
theorem cd_52_289 : qa_code 52 289 = some (1, 11, 0, 291, 0) := by decide +kernel
theorem cd_52_291 : qa_code 52 291 = some (0, 0, 0, 292, 0) := by decide +kernel
theorem cd_52_292 : qa_code 52 292 = some (0, 0, 0, 293, 0) := by decide +kernel
theorem cd_52_293 : qa_code 52 293 = some (18, 45, 5, 296, 108) := by decide +kernel
theorem cd_52_296 : qa_code 52 296 = some (0, 0, -3000, 299, 0) := by decide +kernel
theorem cd_52_299 : qa_code 52 299 = some (15, 1, 345, 302, 0) := by decide +kernel
theorem cd_52_302 : qa_code 52 302 = some (2, 0, 0, 303, 0) := by decide +kernel
theorem cd_52_303 : qa_code 52 303 = some (0, 0, 5, 304, 0) := by decide +kernel
theorem cd_52_304 : qa_code 52 304 = some (0, 0, -1, 305, 0) := by decide +kernel
theorem cd_52_305 : qa_code 52 305 = some (0, 0, 0, 306, 0) := by decide +kernel
theorem cd_52_306 : qa_code 52 306 = some (0, 0, 0, 307, 0) := by decide +kernel
theorem cd_52_307 : qa_code 52 307 = some (18, 45, 5, 310, 108) := by decide +kernel
theorem cd_52_310 : qa_code 52 310 = some (0, 0, -3000, 313, 0) := by decide +kernel
theorem cd_52_313 : qa_code 52 313 = some (15, 1, 345, 316, 0) := by decide +kernel
theorem cd_52_316 : qa_code 52 316 = some (1, 11, 0, 318, 0) := by decide +kernel
theorem cd_52_318 : qa_code 52 318 = some (16, 0, 341, 321, 0) := by decide +kernel
theorem cd_52_341 : qa_code 52 341 = some (0, 0, 1, 342, 0) := by decide +kernel
theorem cd_52_342 : qa_code 52 342 = some (17, 0, 0, 346, 0) := by decide +kernel
theorem cd_52_345 : qa_code 52 345 = some (0, 0, 0, 346, 0) := by decide +kernel
theorem cd_52_346 : qa_code 52 346 = some (19, 1, 0, 346, 0) := by decide +kernel
theorem cd_53_0 : qa_code 53 0 = some (2, 0, 0, 1, 0) := by decide +kernel
theorem cd_53_1 : qa_code 53 1 = some (0, 0, 7, 3, 0) := by decide +kernel
theorem cd_53_3 : qa_code 53 3 = some (2, 2, 0, 4, 0) := by decide +kernel
theorem cd_53_4 : qa_code 53 4 = some (0, 0, 3, 5, 0) := by decide +kernel
theorem cd_53_5 : qa_code 53 5 = some (10, 0, 0, 6, 0) := by decide +kernel
theorem cd_53_6 : qa_code 53 6 = some (0, 0, 0, 7, 0) := by decide +kernel
theorem cd_53_7 : qa_code 53 7 = some (0, 0, 0, 8, 0) := by decide +kernel
theorem cd_53_8 : qa_code 53 8 = some (18, 45, 5, 11, 108) := by decide +kernel
theorem cd_53_11 : qa_code 53 11 = some (0, 0, -3000, 14, 0) := by decide +kernel
theorem cd_53_14 : qa_code 53 14 = some (15, 1, 53, 17, 0) := by decide +kernel
theorem cd_53_17 : qa_code 53 17 = some (2, 0, 0, 18, 0) := by decide +kernel
theorem cd_53_18 : qa_code 53 18 = some (0, 0, 9, 20, 0) := by decide +kernel
theorem cd_53_20 : qa_code 53 20 = some (0, 0, 7, 22, 0) := by decide +kernel
theorem cd_53_22 : qa_code 53 22 = some (0, 0, 0, 23, 0) := by decide +kernel
theorem cd_53_23 : qa_code 53 23 = some (0, 0, 0, 24, 0) := by decide +kernel
theorem cd_53_24 : qa_code 53 24 = some (18, 45, 5, 27, 108) := by decide +kernel
theorem cd_53_27 : qa_code 53 27 = some (0, 0, -3000, 30, 0) := by decide +kernel
theorem cd_53_30 : qa_code 53 30 = some (15, 1, 53, 33, 0) := by decide +kernel
theorem cd_53_33 : qa_code 53 33 = some (2, 0, 0, 34, 0) := by decide +kernel
theorem cd_53_34 : qa_code 53 34 = some (0, 0, 8, 36, 0) := by decide +kernel
theorem cd_53_36 : qa_code 53 36 = some (0, 0, 6, 38, 0) := by decide +kernel
theorem cd_53_38 : qa_code 53 38 = some (0, 0, 0, 39, 0) := by decide +kernel
theorem cd_53_39 : qa_code 53 39 = some (0, 0, 0, 40, 0) := by decide +kernel
theorem cd_53_40 : qa_code 53 40 = some (18, 45, 5, 43, 108) := by decide +kernel
theorem cd_53_43 : qa_code 53 43 = some (0, 0, -3000, 46, 0) := by decide +kernel
theorem cd_53_46 : qa_code 53 46 = some (15, 1, 53, 49, 0) := by decide +kernel
theorem cd_53_49 : qa_code 53 49 = some (0, 0, 1, 50, 0) := by decide +kernel
theorem cd_53_50 : qa_code 53 50 = some (17, 0, 0, 54, 0) := by decide +kernel
theorem cd_53_53 : qa_code 53 53 = some (0, 0, 0, 54, 0) := by decide +kernel
theorem cd_53_54 : qa_code 53 54 = some (3, 3, 0, 55, 0) := by decide +kernel
theorem cd_53_55 : qa_code 53 55 = some (0, 0, 0, 56, 0) := by decide +kernel
theorem cd_53_56 : qa_code 53 56 = some (3, 4, 0, 58, 0) := by decide +kernel
theorem cd_53_58 : qa_code 53 58 = some (1, 4, 0, 60, 0) := by decide +kernel
theorem cd_53_60 : qa_code 53 60 = some (2, 2, 0, 61, 0) := by decide +kernel
theorem cd_53_61 : qa_code 53 61 = some (0, 0, 3, 62, 0) := by decide +kernel
theorem cd_53_62 : qa_code 53 62 = some (10, 0, 0, 63, 0) := by decide +kernel
theorem cd_53_63 : qa_code 53 63 = some (15, 3, 108, 66, 0) := by decide +kernel
theorem cd_53_108 : qa_code 53 108 = some (0, 0, 0, 109, 0) := by decide +kernel
theorem cd_53_109 : qa_code 53 109 = some (3, 4, 0, 111, 0) := by decide +kernel
theorem cd_53_111 : qa_code 53 111 = some (1, 4, 0, 113, 0) := by decide +kernel
theorem cd_53_113 : qa_code 53 113 = some (0, 0, 7, 115, 0) := by decide +kernel
theorem cd_53_115 : qa_code 53 115 = some (15, 3, 150, 118, 0) := by decide +kernel
theorem cd_53_118 : qa_code 53 118 = some (1, 3, 0, 119, 0) := by decide +kernel
theorem cd_53_119 : qa_code 53 119 = some (16, 0, 150, 122, 0) := by decide +kernel
theorem cd_53_122 : qa_code 53 122 = some (2, 0, 0, 123, 0) := by decide +kernel
theorem cd_53_123 : qa_code 53 123 = some (1, 4, 0, 125, 0) := by decide +kernel
theorem cd_53_125 : qa_code 53 125 = some (18, 37, 2, 128, 78) := by decide +kernel
theorem cd_53_128 : qa_code 53 128 = some (2, 2, 0, 129, 0) := by decide +kernel
theorem cd_53_129 : qa_code 53 129 = some (0, 0, 6, 131, 0) := by decide +kernel
theorem cd_53_131 : qa_code 53 131 = some (1, 4, 0, 133, 0) := by decide +kernel
theorem cd_53_133 : qa_code 53 133 = some (6, 0, 0, 134, 0) := by decide +kernel
theorem cd_53_134 : qa_code 53 134 = some (10, 0, 0, 135, 0) := by decide +kernel
theorem cd_53_135 : qa_code 53 135 = some (15, 1, 142, 138, 0) := by decide +kernel
theorem cd_53_138 : qa_code 53 138 = some (0, 0, 1, 139, 0) := by decide +kernel
theorem cd_53_139 : qa_code 53 139 = some (17, 0, 0, 143, 0) := by decide +kernel
theorem cd_53_142 : qa_code 53 142 = some (0, 0, 0, 143, 0) := by decide +kernel
theorem cd_53_143 : qa_code 53 143 = some (3, 3, 0, 144, 0) := by decide +kernel
theorem cd_53_144 : qa_code 53 144 = some (5, 4, 1, 147, 0) := by decide +kernel
theorem cd_53_147 : qa_code 53 147 = some (17, 0, 0, 111, 0) := by decide +kernel
theorem cd_53_150 : qa_code 53 150 = some (1, 3, 0, 151, 0) := by decide +kernel
theorem cd_53_151 : qa_code 53 151 = some (19, 1, 0, 151, 0) := by decide +kernel
theorem cd_54_0 : qa_code 54 0 = some (2, 1, 0, 1, 0) := by decide +kernel
theorem cd_54_1 : qa_code 54 1 = some (1, 2, 0, 2, 0) := by decide +kernel
theorem cd_54_2 : qa_code 54 2 = some (0, 0, 40, 4, 0) := by decide +kernel
theorem cd_54_4 : qa_code 54 4 = some (18, 43, 3, 7, 143) := by decide +kernel
theorem cd_54_7 : qa_code 54 7 = some (3, 13, 0, 9, 0) := by decide +kernel
theorem cd_54_9 : qa_code 54 9 = some (2, 1, 0, 10, 0) := by decide +kernel
theorem cd_54_10 : qa_code 54 10 = some (1, 2, 0, 11, 0) := by decide +kernel
theorem cd_54_11 : qa_code 54 11 = some (0, 0, 1, 12, 0) := by decide +kernel
theorem cd_54_12 : qa_code 54 12 = some (6, 0, 0, 13, 0) := by decide +kernel
theorem cd_54_13 : qa_code 54 13 = some (0, 0, 6000, 16, 0) := by decide +kernel
theorem cd_54_16 : qa_code 54 16 = some (18, 43, 3, 19, 143) := by decide +kernel
theorem cd_54_19 : qa_code 54 19 = some (3, 14, 0, 21, 0) := by decide +kernel
theorem cd_54_21 : qa_code 54 21 = some (2, 1, 0, 22, 0) := by decide +kernel
theorem cd_54_22 : qa_code 54 22 = some (1, 2, 0, 23, 0) := by decide +kernel
theorem cd_54_23 : qa_code 54 23 = some (0, 0, 2, 24, 0) := by decide +kernel
theorem cd_54_24 : qa_code 54 24 = some (6, 0, 0, 25, 0) := by decide +kernel
theorem cd_54_25 : qa_code 54 25 = some (0, 0, 7000, 28, 0) := by decide +kernel
theorem cd_54_28 : qa_code 54 28 = some (18, 43, 3, 31, 143) := by decide +kernel
theorem cd_54_31 : qa_code 54 31 = some (3, 15, 0, 33, 0) := by decide +kernel
theorem cd_54_33 : qa_code 54 33 = some (2, 1, 0, 34, 0) := by decide +kernel
theorem cd_54_34 : qa_code 54 34 = some (1, 2, 0, 35, 0) := by decide +kernel
theorem cd_54_35 : qa_code 54 35 = some (0, 0, 3, 36, 0) := by decide +kernel
theorem cd_54_36 : qa_code 54 36 = some (6, 0, 0, 37, 0) := by decide +kernel
theorem cd_54_37 : qa_code 54 37 = some (0, 0, 8000, 40, 0) := by decide +kernel
theorem cd_54_40 : qa_code 54 40 = some (18, 43, 3, 43, 143) := by decide +kernel
theorem cd_54_43 : qa_code 54 43 = some (3, 16, 0, 45, 0) := by decide +kernel
theorem cd_54_45 : qa_code 54 45 = some (1, 15, 0, 47, 0) := by decide +kernel
theorem cd_54_47 : qa_code 54 47 = some (0, 0, 40, 49, 0) := by decide +kernel
theorem cd_54_49 : qa_code 54 49 = some (6, 5, 0, 50, 0) := by decide +kernel
theorem cd_54_50 : qa_code 54 50 = some (16, 1, 58, 53, 0) := by decide +kernel
theorem cd_54_53 : qa_code 54 53 = some (0, 0, 120, 55, 0) := by decide +kernel
theorem cd_54_55 : qa_code 54 55 = some (17, 0, 0, 82, 0) := by decide +kernel
theorem cd_54_82 : qa_code 54 82 = some (3, 17, 0, 84, 0) := by decide +kernel
theorem cd_54_84 : qa_code 54 84 = some (1, 13, 0, 86, 0) := by decide +kernel
theorem cd_54_86 : qa_code 54 86 = some (0, 0, 3, 87, 0) := by decide +kernel
theorem cd_54_87 : qa_code 54 87 = some (15, 3, 296, 90, 0) := by decide +kernel
theorem cd_54_296 : qa_code 54 296 = some (1, 13, 0, 298, 0) := by decide +kernel
theorem cd_54_298 : qa_code 54 298 = some (0, 0, 18, 300, 0) := by decide +kernel
theorem cd_54_300 : qa_code 54 300 = some (15, 3, 475, 303, 0) := by decide +kernel
theorem cd_54_475 : qa_code 54 475 = some (1, 13, 0, 477, 0) := by decide +kernel
theorem cd_54_477 : qa_code 54 477 = some (0, 0, 21, 479, 0) := by decide +kernel
theorem cd_54_479 : qa_code 54 479 = some (15, 3, 530, 482, 0) := by decide +kernel
theorem cd_54_530 : qa_code 54 530 = some (1, 13, 0, 532, 0) := by decide +kernel
theorem cd_54_532 : qa_code 54 532 = some (0, 0, 26, 534, 0) := by decide +kernel
theorem cd_54_534 : qa_code 54 534 = some (15, 3, 783, 537, 0) := by decide +kernel
theorem cd_54_783 : qa_code 54 783 = some (1, 13, 0, 785, 0) := by decide +kernel
theorem cd_54_785 : qa_code 54 785 = some (0, 0, 28, 787, 0) := by decide +kernel
theorem cd_54_787 : qa_code 54 787 = some (15, 3, 916, 790, 0) := by decide +kernel
theorem cd_54_916 : qa_code 54 916 = some (1, 13, 0, 918, 0) := by decide +kernel
theorem cd_54_918 : qa_code 54 918 = some (0, 0, 30, 920, 0) := by decide +kernel
theorem cd_54_920 : qa_code 54 920 = some (15, 3, 1011, 923, 0) := by decide +kernel
theorem cd_54_923 : qa_code 54 923 = some (1, 14, 0, 925, 0) := by decide +kernel
theorem cd_54_925 : qa_code 54 925 = some (0, 0, 7, 927, 0) := by decide +kernel
theorem cd_54_927 : qa_code 54 927 = some (6, 5, 0, 928, 0) := by decide +kernel
theorem cd_54_928 : qa_code 54 928 = some (3, 18, 0, 930, 0) := by decide +kernel
theorem cd_54_930 : qa_code 54 930 = some (1, 18, 0, 932, 0) := by decide +kernel
theorem cd_54_932 : qa_code 54 932 = some (16, 0, 942, 935, 0) := by decide +kernel
theorem cd_54_942 : qa_code 54 942 = some (0, 0, -2000, 945, 0) := by decide +kernel
theorem cd_54_945 : qa_code 54 945 = some (17, 0, 0, 966, 0) := by decide +kernel
theorem cd_54_966 : qa_code 54 966 = some (3, 19, 0, 968, 0) := by decide +kernel
theorem cd_54_968 : qa_code 54 968 = some (1, 19, 0, 970, 0) := by decide +kernel
theorem cd_54_970 : qa_code 54 970 = some (16, 2, 988, 973, 0) := by decide +kernel
theorem cd_54_988 : qa_code 54 988 = some (2, 0, 0, 989, 0) := by decide +kernel
theorem cd_54_989 : qa_code 54 989 = some (0, 0, 5, 990, 0) := by decide +kernel
theorem cd_54_990 : qa_code 54 990 = some (1, 18, 0, 992, 0) := by decide +kernel
theorem cd_54_992 : qa_code 54 992 = some (0, 0, 0, 993, 0) := by decide +kernel
theorem cd_54_993 : qa_code 54 993 = some (0, 0, 0, 994, 0) := by decide +kernel
theorem cd_54_994 : qa_code 54 994 = some (0, 0, 0, 995, 0) := by decide +kernel
theorem cd_54_995 : qa_code 54 995 = some (0, 0, 0, 996, 0) := by decide +kernel
theorem cd_54_996 : qa_code 54 996 = some (0, 0, 0, 997, 0) := by decide +kernel
theorem cd_54_997 : qa_code 54 997 = some (18, 44, 8, 1000, 129) := by decide +kernel
theorem cd_54_1000 : qa_code 54 1000 = some (1, 19, 0, 1002, 0) := by decide +kernel
theorem cd_54_1002 : qa_code 54 1002 = some (15, 1, 1009, 1005, 0) := by decide +kernel
theorem cd_54_1005 : qa_code 54 1005 = some (0, 0, 1, 1006, 0) := by decide +kernel
theorem cd_54_1006 : qa_code 54 1006 = some (17, 0, 0, 1010, 0) := by decide +kernel
theorem cd_54_1010 : qa_code 54 1010 = some (19, 1, 0, 1010, 0) := by decide +kernel
theorem cd_55_98 : qa_code 55 98 = some (2, 1, 0, 99, 0) := by decide +kernel
theorem cd_55_99 : qa_code 55 99 = some (2, 2, 0, 100, 0) := by decide +kernel
theorem cd_55_100 : qa_code 55 100 = some (2, 3, 0, 101, 0) := by decide +kernel
theorem cd_55_101 : qa_code 55 101 = some (2, 4, 0, 103, 0) := by decide +kernel
theorem cd_55_103 : qa_code 55 103 = some (2, 5, 0, 105, 0) := by decide +kernel
theorem cd_55_105 : qa_code 55 105 = some (2, 9, 0, 107, 0) := by decide +kernel
theorem cd_55_107 : qa_code 55 107 = some (0, 0, 0, 108, 0) := by decide +kernel
theorem cd_55_108 : qa_code 55 108 = some (18, 51, 7, 111, 166) := by decide +kernel
theorem cd_55_111 : qa_code 55 111 = some (16, 0, 149, 114, 0) := by decide +kernel
theorem cd_55_114 : qa_code 55 114 = some (2, 1, 0, 115, 0) := by decide +kernel
theorem cd_55_115 : qa_code 55 115 = some (2, 2, 0, 116, 0) := by decide +kernel
theorem cd_55_116 : qa_code 55 116 = some (2, 3, 0, 117, 0) := by decide +kernel
theorem cd_55_117 : qa_code 55 117 = some (2, 4, 0, 119, 0) := by decide +kernel
theorem cd_55_119 : qa_code 55 119 = some (2, 6, 0, 121, 0) := by decide +kernel
theorem cd_55_121 : qa_code 55 121 = some (2, 9, 0, 123, 0) := by decide +kernel
theorem cd_55_123 : qa_code 55 123 = some (2, 10, 0, 125, 0) := by decide +kernel
theorem cd_55_125 : qa_code 55 125 = some (2, 11, 0, 127, 0) := by decide +kernel
theorem cd_55_127 : qa_code 55 127 = some (0, 0, 0, 128, 0) := by decide +kernel
theorem cd_55_128 : qa_code 55 128 = some (18, 52, 9, 131, 170) := by decide +kernel
theorem cd_55_131 : qa_code 55 131 = some (16, 0, 149, 134, 0) := by decide +kernel
theorem cd_55_134 : qa_code 55 134 = some (2, 1, 0, 135, 0) := by decide +kernel
theorem cd_55_135 : qa_code 55 135 = some (2, 7, 0, 137, 0) := by decide +kernel
theorem cd_55_137 : qa_code 55 137 = some (2, 9, 0, 139, 0) := by decide +kernel
theorem cd_55_139 : qa_code 55 139 = some (18, 53, 3, 142, 174) := by decide +kernel
theorem cd_55_142 : qa_code 55 142 = some (16, 0, 149, 145, 0) := by decide +kernel
theorem cd_55_145 : qa_code 55 145 = some (0, 0, 1, 146, 0) := by decide +kernel
theorem cd_55_146 : qa_code 55 146 = some (17, 0, 0, 150, 0) := by decide +kernel
theorem cd_55_149 : qa_code 55 149 = some (0, 0, 0, 150, 0) := by decide +kernel
theorem cd_55_150 : qa_code 55 150 = some (3, 12, 0, 152, 0) := by decide +kernel
theorem cd_55_152 : qa_code 55 152 = some (0, 0, 0, 153, 0) := by decide +kernel
theorem cd_55_153 : qa_code 55 153 = some (3, 13, 0, 155, 0) := by decide +kernel
theorem cd_55_155 : qa_code 55 155 = some (1, 13, 0, 157, 0) := by decide +kernel
theorem cd_55_157 : qa_code 55 157 = some (0, 0, 54, 159, 0) := by decide +kernel
theorem cd_55_159 : qa_code 55 159 = some (15, 3, 315, 162, 0) := by decide +kernel
theorem cd_55_162 : qa_code 55 162 = some (1, 12, 0, 164, 0) := by decide +kernel
theorem cd_55_164 : qa_code 55 164 = some (16, 0, 315, 167, 0) := by decide +kernel
theorem cd_55_167 : qa_code 55 167 = some (2, 0, 0, 168, 0) := by decide +kernel
theorem cd_55_168 : qa_code 55 168 = some (0, 0, 4, 169, 0) := by decide +kernel
theorem cd_55_169 : qa_code 55 169 = some (1, 13, 0, 171, 0) := by decide +kernel
theorem cd_55_171 : qa_code 55 171 = some (6, 3, 0, 172, 0) := by decide +kernel
theorem cd_55_172 : qa_code 55 172 = some (0, 0, 1, 173, 0) := by decide +kernel
theorem cd_55_173 : qa_code 55 173 = some (6, 0, 0, 174, 0) := by decide +kernel
theorem cd_55_174 : qa_code 55 174 = some (0, 0, 6, 176, 0) := by decide +kernel
theorem cd_55_176 : qa_code 55 176 = some (18, 43, 3, 179, 143) := by decide +kernel
theorem cd_55_179 : qa_code 55 179 = some (3, 14, 0, 181, 0) := by decide +kernel
theorem cd_55_181 : qa_code 55 181 = some (2, 1, 0, 182, 0) := by decide +kernel
theorem cd_55_182 : qa_code 55 182 = some (2, 0, 0, 183, 0) := by decide +kernel
theorem cd_55_183 : qa_code 55 183 = some (0, 0, 4, 184, 0) := by decide +kernel
theorem cd_55_184 : qa_code 55 184 = some (1, 13, 0, 186, 0) := by decide +kernel
theorem cd_55_186 : qa_code 55 186 = some (6, 3, 0, 187, 0) := by decide +kernel
theorem cd_55_187 : qa_code 55 187 = some (2, 2, 0, 188, 0) := by decide +kernel
theorem cd_55_188 : qa_code 55 188 = some (2, 3, 0, 189, 0) := by decide +kernel
theorem cd_55_189 : qa_code 55 189 = some (2, 4, 0, 191, 0) := by decide +kernel
theorem cd_55_191 : qa_code 55 191 = some (2, 5, 0, 193, 0) := by decide +kernel
theorem cd_55_193 : qa_code 55 193 = some (2, 6, 0, 195, 0) := by decide +kernel
theorem cd_55_195 : qa_code 55 195 = some (2, 7, 0, 197, 0) := by decide +kernel
theorem cd_55_197 : qa_code 55 197 = some (2, 8, 0, 199, 0) := by decide +kernel
theorem cd_55_199 : qa_code 55 199 = some (2, 9, 0, 201, 0) := by decide +kernel
theorem cd_55_201 : qa_code 55 201 = some (2, 10, 0, 203, 0) := by decide +kernel
theorem cd_55_203 : qa_code 55 203 = some (2, 11, 0, 205, 0) := by decide +kernel
theorem cd_55_205 : qa_code 55 205 = some (18, 54, 13, 208, 178) := by decide +kernel
theorem cd_55_208 : qa_code 55 208 = some (16, 0, 306, 211, 0) := by decide +kernel
theorem cd_55_211 : qa_code 55 211 = some (2, 1, 0, 212, 0) := by decide +kernel
theorem cd_55_212 : qa_code 55 212 = some (2, 2, 0, 213, 0) := by decide +kernel
theorem cd_55_213 : qa_code 55 213 = some (2, 3, 0, 214, 0) := by decide +kernel
theorem cd_55_214 : qa_code 55 214 = some (2, 4, 0, 216, 0) := by decide +kernel
theorem cd_55_216 : qa_code 55 216 = some (2, 5, 0, 218, 0) := by decide +kernel
theorem cd_55_218 : qa_code 55 218 = some (2, 9, 0, 220, 0) := by decide +kernel
theorem cd_55_220 : qa_code 55 220 = some (2, 0, 0, 221, 0) := by decide +kernel
theorem cd_55_221 : qa_code 55 221 = some (0, 0, 4, 222, 0) := by decide +kernel
theorem cd_55_222 : qa_code 55 222 = some (1, 13, 0, 224, 0) := by decide +kernel
theorem cd_55_224 : qa_code 55 224 = some (6, 3, 0, 225, 0) := by decide +kernel
theorem cd_55_225 : qa_code 55 225 = some (0, 0, 2, 226, 0) := by decide +kernel
theorem cd_55_226 : qa_code 55 226 = some (6, 0, 0, 227, 0) := by decide +kernel
theorem cd_55_227 : qa_code 55 227 = some (0, 0, 120, 229, 0) := by decide +kernel
theorem cd_55_229 : qa_code 55 229 = some (18, 43, 3, 232, 143) := by decide +kernel
theorem cd_55_232 : qa_code 55 232 = some (18, 51, 7, 235, 166) := by decide +kernel
theorem cd_55_235 : qa_code 55 235 = some (16, 0, 306, 238, 0) := by decide +kernel
theorem cd_55_238 : qa_code 55 238 = some (2, 1, 0, 239, 0) := by decide +kernel
theorem cd_55_239 : qa_code 55 239 = some (2, 2, 0, 240, 0) := by decide +kernel
theorem cd_55_240 : qa_code 55 240 = some (2, 3, 0, 241, 0) := by decide +kernel
theorem cd_55_241 : qa_code 55 241 = some (2, 4, 0, 243, 0) := by decide +kernel
theorem cd_55_243 : qa_code 55 243 = some (2, 6, 0, 245, 0) := by decide +kernel
theorem cd_55_245 : qa_code 55 245 = some (2, 9, 0, 247, 0) := by decide +kernel
theorem cd_55_247 : qa_code 55 247 = some (2, 10, 0, 249, 0) := by decide +kernel
theorem cd_55_249 : qa_code 55 249 = some (2, 11, 0, 251, 0) := by decide +kernel
theorem cd_55_251 : qa_code 55 251 = some (2, 0, 0, 252, 0) := by decide +kernel
theorem cd_55_252 : qa_code 55 252 = some (0, 0, 4, 253, 0) := by decide +kernel
theorem cd_55_253 : qa_code 55 253 = some (1, 13, 0, 255, 0) := by decide +kernel
theorem cd_55_255 : qa_code 55 255 = some (6, 3, 0, 256, 0) := by decide +kernel
theorem cd_55_256 : qa_code 55 256 = some (0, 0, 3, 257, 0) := by decide +kernel
theorem cd_55_257 : qa_code 55 257 = some (6, 0, 0, 258, 0) := by decide +kernel
theorem cd_55_258 : qa_code 55 258 = some (0, 0, 1200, 261, 0) := by decide +kernel
theorem cd_55_261 : qa_code 55 261 = some (18, 43, 3, 264, 143) := by decide +kernel
theorem cd_55_264 : qa_code 55 264 = some (18, 52, 9, 267, 170) := by decide +kernel
theorem cd_55_267 : qa_code 55 267 = some (16, 0, 306, 270, 0) := by decide +kernel
theorem cd_55_270 : qa_code 55 270 = some (2, 1, 0, 271, 0) := by decide +kernel
theorem cd_55_271 : qa_code 55 271 = some (2, 7, 0, 273, 0) := by decide +kernel
theorem cd_55_273 : qa_code 55 273 = some (2, 9, 0, 275, 0) := by decide +kernel
theorem cd_55_275 : qa_code 55 275 = some (18, 53, 3, 278, 174) := by decide +kernel
theorem cd_55_278 : qa_code 55 278 = some (16, 0, 306, 281, 0) := by decide +kernel
theorem cd_55_281 : qa_code 55 281 = some (2, 1, 0, 282, 0) := by decide +kernel
theorem cd_55_282 : qa_code 55 282 = some (1, 14, 0, 284, 0) := by decide +kernel
theorem cd_55_284 : qa_code 55 284 = some (18, 36, 2, 287, 75) := by decide +kernel
theorem cd_55_287 : qa_code 55 287 = some (2, 2, 0, 288, 0) := by decide +kernel
theorem cd_55_288 : qa_code 55 288 = some (2, 4, 0, 290, 0) := by decide +kernel
theorem cd_55_290 : qa_code 55 290 = some (2, 6, 0, 292, 0) := by decide +kernel
theorem cd_55_292 : qa_code 55 292 = some (2, 9, 0, 294, 0) := by decide +kernel
theorem cd_55_294 : qa_code 55 294 = some (1, 14, 0, 296, 0) := by decide +kernel
theorem cd_55_296 : qa_code 55 296 = some (18, 49, 5, 299, 140) := by decide +kernel
theorem cd_55_299 : qa_code 55 299 = some (15, 1, 306, 302, 0) := by decide +kernel
theorem cd_55_302 : qa_code 55 302 = some (0, 0, 1, 303, 0) := by decide +kernel
theorem cd_55_303 : qa_code 55 303 = some (17, 0, 0, 307, 0) := by decide +kernel
theorem cd_55_306 : qa_code 55 306 = some (0, 0, 0, 307, 0) := by decide +kernel
theorem cd_55_307 : qa_code 55 307 = some (3, 12, 0, 309, 0) := by decide +kernel
theorem cd_55_309 : qa_code 55 309 = some (5, 13, 1, 312, 0) := by decide +kernel
theorem cd_55_312 : qa_code 55 312 = some (17, 0, 0, 155, 0) := by decide +kernel
theorem cd_55_315 : qa_code 55 315 = some (1, 12, 0, 317, 0) := by decide +kernel
theorem cd_55_317 : qa_code 55 317 = some (16, 0, 484, 320, 0) := by decide +kernel
theorem cd_55_320 : qa_code 55 320 = some (2, 1, 0, 321, 0) := by decide +kernel
theorem cd_55_321 : qa_code 55 321 = some (0, 0, 0, 322, 0) := by decide +kernel
theorem cd_55_322 : qa_code 55 322 = some (0, 0, -2, 324, 0) := by decide +kernel
theorem cd_55_324 : qa_code 55 324 = some (0, 0, 0, 325, 0) := by decide +kernel
theorem cd_55_325 : qa_code 55 325 = some (0, 0, 0, 326, 0) := by decide +kernel
theorem cd_55_326 : qa_code 55 326 = some (0, 0, 0, 327, 0) := by decide +kernel
theorem cd_55_327 : qa_code 55 327 = some (0, 0, 0, 328, 0) := by decide +kernel
theorem cd_55_328 : qa_code 55 328 = some (0, 0, 0, 329, 0) := by decide +kernel
theorem cd_55_329 : qa_code 55 329 = some (18, 44, 8, 332, 129) := by decide +kernel
theorem cd_55_332 : qa_code 55 332 = some (0, 0, -3000, 335, 0) := by decide +kernel
theorem cd_55_335 : qa_code 55 335 = some (15, 1, 484, 338, 0) := by decide +kernel
theorem cd_55_338 : qa_code 55 338 = some (2, 1, 0, 339, 0) := by decide +kernel
theorem cd_55_339 : qa_code 55 339 = some (0, 0, 1, 340, 0) := by decide +kernel
theorem cd_55_340 : qa_code 55 340 = some (0, 0, 8, 342, 0) := by decide +kernel
theorem cd_55_342 : qa_code 55 342 = some (0, 0, 0, 343, 0) := by decide +kernel
theorem cd_55_343 : qa_code 55 343 = some (0, 0, 0, 344, 0) := by decide +kernel
theorem cd_55_344 : qa_code 55 344 = some (0, 0, 0, 345, 0) := by decide +kernel
theorem cd_55_345 : qa_code 55 345 = some (0, 0, 0, 346, 0) := by decide +kernel
theorem cd_55_346 : qa_code 55 346 = some (0, 0, 0, 347, 0) := by decide +kernel
theorem cd_55_347 : qa_code 55 347 = some (18, 44, 8, 350, 129) := by decide +kernel
theorem cd_55_350 : qa_code 55 350 = some (0, 0, -3000, 353, 0) := by decide +kernel
theorem cd_55_353 : qa_code 55 353 = some (15, 1, 484, 356, 0) := by decide +kernel
theorem cd_55_356 : qa_code 55 356 = some (2, 1, 0, 357, 0) := by decide +kernel
theorem cd_55_357 : qa_code 55 357 = some (0, 0, 2, 358, 0) := by decide +kernel
theorem cd_55_358 : qa_code 55 358 = some (0, 0, 0, 359, 0) := by decide +kernel
theorem cd_55_359 : qa_code 55 359 = some (0, 0, -1, 360, 0) := by decide +kernel
theorem cd_55_360 : qa_code 55 360 = some (0, 0, 0, 361, 0) := by decide +kernel
theorem cd_55_361 : qa_code 55 361 = some (0, 0, 0, 362, 0) := by decide +kernel
theorem cd_55_362 : qa_code 55 362 = some (0, 0, 0, 363, 0) := by decide +kernel
theorem cd_55_363 : qa_code 55 363 = some (0, 0, 0, 364, 0) := by decide +kernel
theorem cd_55_364 : qa_code 55 364 = some (18, 44, 8, 367, 129) := by decide +kernel
theorem cd_55_367 : qa_code 55 367 = some (0, 0, -3000, 370, 0) := by decide +kernel
theorem cd_55_370 : qa_code 55 370 = some (15, 1, 484, 373, 0) := by decide +kernel
theorem cd_55_373 : qa_code 55 373 = some (2, 1, 0, 374, 0) := by decide +kernel
theorem cd_55_374 : qa_code 55 374 = some (0, 0, 3, 375, 0) := by decide +kernel
theorem cd_55_375 : qa_code 55 375 = some (0, 0, -1, 376, 0) := by decide +kernel
theorem cd_55_376 : qa_code 55 376 = some (0, 0, 0, 377, 0) := by decide +kernel
theorem cd_55_377 : qa_code 55 377 = some (0, 0, 0, 378, 0) := by decide +kernel
theorem cd_55_378 : qa_code 55 378 = some (0, 0, 0, 379, 0) := by decide +kernel
theorem cd_55_379 : qa_code 55 379 = some (0, 0, 0, 380, 0) := by decide +kernel
theorem cd_55_380 : qa_code 55 380 = some (0, 0, 0, 381, 0) := by decide +kernel
theorem cd_55_381 : qa_code 55 381 = some (18, 44, 8, 384, 129) := by decide +kernel
theorem cd_55_384 : qa_code 55 384 = some (0, 0, -3000, 387, 0) := by decide +kernel
theorem cd_55_387 : qa_code 55 387 = some (15, 1, 484, 390, 0) := by decide +kernel
theorem cd_55_390 : qa_code 55 390 = some (2, 1, 0, 391, 0) := by decide +kernel
theorem cd_55_391 : qa_code 55 391 = some (0, 0, 4, 392, 0) := by decide +kernel
theorem cd_55_392 : qa_code 55 392 = some (0, 0, 10, 394, 0) := by decide +kernel
theorem cd_55_394 : qa_code 55 394 = some (0, 0, 0, 395, 0) := by decide +kernel
theorem cd_55_395 : qa_code 55 395 = some (0, 0, 0, 396, 0) := by decide +kernel
theorem cd_55_396 : qa_code 55 396 = some (0, 0, 0, 397, 0) := by decide +kernel
theorem cd_55_397 : qa_code 55 397 = some (0, 0, 0, 398, 0) := by decide +kernel
theorem cd_55_398 : qa_code 55 398 = some (0, 0, 0, 399, 0) := by decide +kernel
theorem cd_55_399 : qa_code 55 399 = some (18, 44, 8, 402, 129) := by decide +kernel
theorem cd_55_402 : qa_code 55 402 = some (0, 0, -3000, 405, 0) := by decide +kernel
theorem cd_55_405 : qa_code 55 405 = some (15, 1, 484, 408, 0) := by decide +kernel
theorem cd_55_408 : qa_code 55 408 = some (2, 1, 0, 409, 0) := by decide +kernel
theorem cd_55_409 : qa_code 55 409 = some (0, 0, 5, 410, 0) := by decide +kernel
theorem cd_55_410 : qa_code 55 410 = some (0, 0, 0, 411, 0) := by decide +kernel
theorem cd_55_411 : qa_code 55 411 = some (0, 0, 0, 412, 0) := by decide +kernel
theorem cd_55_412 : qa_code 55 412 = some (0, 0, 0, 413, 0) := by decide +kernel
theorem cd_55_413 : qa_code 55 413 = some (0, 0, 0, 414, 0) := by decide +kernel
theorem cd_55_414 : qa_code 55 414 = some (0, 0, 0, 415, 0) := by decide +kernel
theorem cd_55_415 : qa_code 55 415 = some (0, 0, 0, 416, 0) := by decide +kernel
theorem cd_55_416 : qa_code 55 416 = some (18, 44, 8, 419, 129) := by decide +kernel
theorem cd_55_419 : qa_code 55 419 = some (0, 0, -2000, 422, 0) := by decide +kernel
theorem cd_55_422 : qa_code 55 422 = some (15, 1, 484, 425, 0) := by decide +kernel
theorem cd_55_425 : qa_code 55 425 = some (2, 1, 0, 426, 0) := by decide +kernel
theorem cd_55_426 : qa_code 55 426 = some (0, 0, 6, 428, 0) := by decide +kernel
theorem cd_55_428 : qa_code 55 428 = some (0, 0, 1, 429, 0) := by decide +kernel
theorem cd_55_429 : qa_code 55 429 = some (0, 0, 51, 431, 0) := by decide +kernel
theorem cd_55_431 : qa_code 55 431 = some (0, 0, 0, 432, 0) := by decide +kernel
theorem cd_55_432 : qa_code 55 432 = some (0, 0, 0, 433, 0) := by decide +kernel
theorem cd_55_433 : qa_code 55 433 = some (0, 0, 0, 434, 0) := by decide +kernel
theorem cd_55_434 : qa_code 55 434 = some (0, 0, 0, 435, 0) := by decide +kernel
theorem cd_55_435 : qa_code 55 435 = some (18, 44, 8, 438, 129) := by decide +kernel
theorem cd_55_438 : qa_code 55 438 = some (0, 0, -2000, 441, 0) := by decide +kernel
theorem cd_55_441 : qa_code 55 441 = some (15, 1, 484, 444, 0) := by decide +kernel
theorem cd_55_444 : qa_code 55 444 = some (2, 1, 0, 445, 0) := by decide +kernel
theorem cd_55_445 : qa_code 55 445 = some (0, 0, 7, 447, 0) := by decide +kernel
theorem cd_55_447 : qa_code 55 447 = some (0, 0, 0, 448, 0) := by decide +kernel
theorem cd_55_448 : qa_code 55 448 = some (0, 0, 0, 449, 0) := by decide +kernel
theorem cd_55_449 : qa_code 55 449 = some (0, 0, 0, 450, 0) := by decide +kernel
theorem cd_55_450 : qa_code 55 450 = some (0, 0, 0, 451, 0) := by decide +kernel
theorem cd_55_451 : qa_code 55 451 = some (0, 0, 0, 452, 0) := by decide +kernel
theorem cd_55_452 : qa_code 55 452 = some (0, 0, 0, 453, 0) := by decide +kernel
theorem cd_55_453 : qa_code 55 453 = some (18, 44, 8, 456, 129) := by decide +kernel
theorem cd_55_456 : qa_code 55 456 = some (0, 0, -2000, 459, 0) := by decide +kernel
theorem cd_55_459 : qa_code 55 459 = some (15, 1, 484, 462, 0) := by decide +kernel
theorem cd_55_462 : qa_code 55 462 = some (2, 1, 0, 463, 0) := by decide +kernel
theorem cd_55_463 : qa_code 55 463 = some (0, 0, 8, 465, 0) := by decide +kernel
theorem cd_55_465 : qa_code 55 465 = some (0, 0, -1, 466, 0) := by decide +kernel
theorem cd_55_466 : qa_code 55 466 = some (0, 0, 0, 467, 0) := by decide +kernel
theorem cd_55_467 : qa_code 55 467 = some (0, 0, 0, 468, 0) := by decide +kernel
theorem cd_55_468 : qa_code 55 468 = some (0, 0, 0, 469, 0) := by decide +kernel
theorem cd_55_469 : qa_code 55 469 = some (0, 0, 0, 470, 0) := by decide +kernel
theorem cd_55_470 : qa_code 55 470 = some (0, 0, 0, 471, 0) := by decide +kernel
theorem cd_55_471 : qa_code 55 471 = some (18, 44, 8, 474, 129) := by decide +kernel
theorem cd_55_474 : qa_code 55 474 = some (0, 0, -2000, 477, 0) := by decide +kernel
theorem cd_55_477 : qa_code 55 477 = some (15, 1, 484, 480, 0) := by decide +kernel
theorem cd_55_480 : qa_code 55 480 = some (0, 0, 1, 481, 0) := by decide +kernel
theorem cd_55_481 : qa_code 55 481 = some (17, 0, 0, 485, 0) := by decide +kernel
theorem cd_55_484 : qa_code 55 484 = some (0, 0, 0, 485, 0) := by decide +kernel
theorem cd_55_485 : qa_code 55 485 = some (19, 1, 0, 485, 0) := by decide +kernel
