/** Boundary cases of shots, of the film's frames, and of how frames stand. */
public final class FilmEdgeTests {
    private static final int LOW = Integer.MIN_VALUE;
    private static final int HIGH = Integer.MAX_VALUE;
    private static final Answers A = new Answers();

    public static void main(String[] args) {
        emptyFilm();
        placeRangeOfCut();
        firstRange();
        lastRange();
        lastAgainstFirst();
        tenthShot();
        eleventhShot();
        roomBehindUncut();
        longestFilm();
        shotAheadBetweenAndBehind();
        uncutRange();
        uncutTheFirstBetweenAndTheLast();
        uncutTheOnlyShot();
        shownRange();
        frameTwiceInTheFilm();
        refusedCut();
        refusedUncut();
        stateOfAFrameNotRendered();
        stateOfAFrameThatStands();
        stateOfAVoidFrame();
        stateOfAFrameThatStandsAgain();
        neededAtTheEndsOfAShot();
        cutAndUncutMakeNothingVoid();
        newBoneMakesAllVoid();
        framesRenderedWithoutBones();
        newBoneIsNeverUndone();
        renderedAgainWithTheNewBone();
        noVoids();
        allVoid();
        voidsThatAreNotNeeded();
        A.close("FilmEdgeTests");
    }

    private static KeyframeCourt withTenShots() {
        KeyframeCourt c = new KeyframeCourt();
        for (int shot = 0; shot < 10; shot++) {
            c.cut(shot, shot, shot);
        }
        return c;
    }

    /** One bone, and the frames 10 to 14 rendered without keys. */
    private static KeyframeCourt withFiveRendered() {
        KeyframeCourt c = Courts.withRoots(1);
        c.cut(0, 10, 14);
        c.machine(5);
        c.night(1);
        return c;
    }

    private static void emptyFilm() {
        KeyframeCourt c = new KeyframeCourt();
        A.isMissing("11 shot 0", () -> c.uncut(0));
        A.isMissing("12 place 0", () -> c.shown(0));
        A.isMissing("10 place 1", () -> c.cut(1, 0, 0));
        A.is("13 frame 0 is not needed", 0, () -> c.state(0));
        A.is("13 frame 119 is not needed", 0, () -> c.state(119));
        A.is("10 place 0", 1, () -> c.cut(0, 0, 0));
    }

    private static void placeRangeOfCut() {
        KeyframeCourt c = new KeyframeCourt();
        c.cut(0, 1, 1);
        c.cut(1, 2, 2);
        for (int place : new int[] {LOW, -1, 3, HIGH}) {
            A.isMissing("10 place " + place, () -> c.cut(place, 5, 5));
        }
        A.is("10 place 0", 3, () -> c.cut(0, 3, 3));
        A.is("10 behind all", 4, () -> c.cut(3, 4, 4));
        A.is("12 the first", 3, () -> c.shown(0));
        A.is("12 the last", 4, () -> c.shown(3));
    }

    private static void firstRange() {
        KeyframeCourt c = new KeyframeCourt();
        for (int first : new int[] {LOW, -1, 120, HIGH}) {
            A.isMissing("10 first " + first, () -> c.cut(0, first, 119));
        }
        A.is("10 first 0", 120, () -> c.cut(0, 0, 119));
        A.is("10 first 119", 121, () -> c.cut(0, 119, 119));
    }

    private static void lastRange() {
        KeyframeCourt c = new KeyframeCourt();
        for (int last : new int[] {LOW, -1, 120, HIGH}) {
            A.isMissing("10 last " + last, () -> c.cut(0, 0, last));
        }
        A.is("10 last 0", 1, () -> c.cut(0, 0, 0));
        A.is("10 last 119", 121, () -> c.cut(0, 0, 119));
    }

    private static void lastAgainstFirst() {
        KeyframeCourt c = new KeyframeCourt();
        A.isUnfit("10 one less", () -> c.cut(0, 60, 59));
        A.isUnfit("10 0 behind 119", () -> c.cut(0, 119, 0));
        A.is("10 the same", 1, () -> c.cut(0, 60, 60));
        A.is("10 one more", 3, () -> c.cut(0, 60, 61));
    }

    private static void tenthShot() {
        KeyframeCourt c = withTenShots();
        A.is("11 one of ten", 9, () -> c.uncut(0));
        A.is("10 the tenth", 10, () -> c.cut(9, 50, 50));
        A.is("12 the tenth", 50, () -> c.shown(9));
    }

    private static void eleventhShot() {
        KeyframeCourt c = withTenShots();
        A.isNotNow("10 ahead of all", () -> c.cut(0, 0, 0));
        A.isNotNow("10 between", () -> c.cut(5, 0, 119));
        A.isNotNow("10 behind all", () -> c.cut(10, 119, 119));
        A.isMissing("10 place 11", () -> c.cut(11, 0, 0));
        A.isUnfit("10 last less than first", () -> c.cut(10, 1, 0));
        A.isMissing("12 ten frames alone", () -> c.shown(10));
        for (int shot = 0; shot < 10; shot++) {
            int s = shot;
            A.is("12 frame " + s, s, () -> c.shown(s));
        }
        A.is("13 frame 119 is not needed", 0, () -> c.state(119));
    }

    private static void roomBehindUncut() {
        KeyframeCourt c = withTenShots();
        c.uncut(4);
        A.is("10 room for one", 10, () -> c.cut(9, 0, 0));
        A.isNotNow("10 no room for two", () -> c.cut(9, 0, 0));
    }

    private static void longestFilm() {
        KeyframeCourt c = new KeyframeCourt();
        for (int shot = 0; shot < 10; shot++) {
            int length = 120 * (shot + 1);
            A.is("10 all frames once more", length, () -> c.cut(0, 0, 119));
        }
        A.is("12 frame 119 of the first shot", 119, () -> c.shown(119));
        A.is("12 frame 0 of the second shot", 0, () -> c.shown(120));
        A.is("12 frame 0 of the last shot", 0, () -> c.shown(1080));
        A.is("12 the last frame", 119, () -> c.shown(1199));
        A.isMissing("12 behind the last frame", () -> c.shown(1200));
        A.is("11 one shot less", 1080, () -> c.uncut(9));
        A.isMissing("12 behind the last frame then", () -> c.shown(1080));
    }

    private static void shotAheadBetweenAndBehind() {
        KeyframeCourt c = new KeyframeCourt();
        c.cut(0, 30, 31);
        c.cut(0, 10, 11);
        c.cut(1, 20, 21);
        c.cut(3, 40, 41);
        int[] frames = {10, 11, 20, 21, 30, 31, 40, 41};
        for (int place = 0; place < frames.length; place++) {
            int p = place;
            A.is("12 place " + p, frames[p], () -> c.shown(p));
        }
    }

    private static void uncutRange() {
        KeyframeCourt c = new KeyframeCourt();
        c.cut(0, 1, 1);
        c.cut(1, 2, 3);
        for (int shot : new int[] {LOW, -1, 2, HIGH}) {
            A.isMissing("11 shot " + shot, () -> c.uncut(shot));
        }
        A.is("11 the last shot", 1, () -> c.uncut(1));
        A.isMissing("11 shot 1 is gone", () -> c.uncut(1));
        A.is("11 the first shot", 0, () -> c.uncut(0));
    }

    private static void uncutTheFirstBetweenAndTheLast() {
        KeyframeCourt first = withTenShots();
        first.uncut(0);
        A.is("12 the second is the first", 1, () -> first.shown(0));
        A.is("12 the tenth is the ninth", 9, () -> first.shown(8));
        KeyframeCourt between = withTenShots();
        between.uncut(5);
        A.is("12 ahead of it", 4, () -> between.shown(4));
        A.is("12 behind it", 6, () -> between.shown(5));
        KeyframeCourt last = withTenShots();
        last.uncut(9);
        A.is("12 the last one then", 8, () -> last.shown(8));
        A.isMissing("12 nine frames alone", () -> last.shown(9));
    }

    private static void uncutTheOnlyShot() {
        KeyframeCourt c = new KeyframeCourt();
        c.cut(0, 0, 119);
        A.is("11 no frame is left", 0, () -> c.uncut(0));
        A.isMissing("12 no frame", () -> c.shown(0));
        A.is("13 frame 0 is not needed", 0, () -> c.state(0));
        A.is("13 frame 119 is not needed", 0, () -> c.state(119));
        A.isMissing("10 place 1", () -> c.cut(1, 0, 0));
    }

    private static void shownRange() {
        KeyframeCourt c = new KeyframeCourt();
        c.cut(0, 7, 9);
        for (int place : new int[] {LOW, -1, 3, HIGH}) {
            A.isMissing("12 place " + place, () -> c.shown(place));
        }
        A.is("12 the first", 7, () -> c.shown(0));
        A.is("12 the last", 9, () -> c.shown(2));
    }

    private static void frameTwiceInTheFilm() {
        KeyframeCourt c = new KeyframeCourt();
        c.cut(0, 5, 6);
        A.is("10 both count", 4, () -> c.cut(1, 6, 7));
        A.is("12 once", 6, () -> c.shown(1));
        A.is("12 twice", 6, () -> c.shown(2));
        A.is("13 it is needed", 10, () -> c.state(6));
        c.uncut(0);
        A.is("13 still needed by the other", 10, () -> c.state(6));
        A.is("13 no more needed", 0, () -> c.state(5));
        c.uncut(0);
        A.is("13 needed by none", 0, () -> c.state(6));
    }

    private static void refusedCut() {
        KeyframeCourt c = withFiveRendered();
        A.isUnfit("10 last less than first", () -> c.cut(0, 20, 19));
        A.isMissing("10 no such frame", () -> c.cut(0, 20, 120));
        A.isMissing("10 no such place", () -> c.cut(2, 20, 20));
        A.is("12 the first frame", 10, () -> c.shown(0));
        A.isMissing("12 five frames alone", () -> c.shown(5));
        A.is("13 frame 20 is not needed", 0, () -> c.state(20));
        A.is("18 nothing to render", 0, () -> c.night(1));
    }

    private static void refusedUncut() {
        KeyframeCourt c = withFiveRendered();
        A.isMissing("11 shot 1", () -> c.uncut(1));
        A.isMissing("11 shot -1", () -> c.uncut(-1));
        A.is("12 the last frame", 14, () -> c.shown(4));
        A.is("13 it is needed", 11, () -> c.state(14));
    }

    private static void stateOfAFrameNotRendered() {
        KeyframeCourt c = withFiveRendered();
        c.key(0, 0, 0, 5, 0, false);
        A.is("13 not needed", 0, () -> c.state(15));
        c.cut(1, 15, 15);
        A.is("13 needed", 10, () -> c.state(15));
        A.is("14 it is not void", 5, () -> c.voids());
    }

    private static void stateOfAFrameThatStands() {
        KeyframeCourt c = withFiveRendered();
        A.is("13 the first, needed", 11, () -> c.state(10));
        A.is("13 the last, needed", 11, () -> c.state(14));
        c.uncut(0);
        A.is("13 the first, not needed", 1, () -> c.state(10));
        A.is("13 the last, not needed", 1, () -> c.state(14));
    }

    private static void stateOfAVoidFrame() {
        KeyframeCourt c = withFiveRendered();
        c.key(0, 0, 13, 0, 0, false);
        A.is("3 the last one alone", 1, () -> c.key(0, 0, 14, 1, 0, false));
        A.is("13 needed", 12, () -> c.state(14));
        A.is("13 the one ahead stands", 11, () -> c.state(13));
        c.uncut(0);
        A.is("13 not needed", 2, () -> c.state(14));
    }

    private static void stateOfAFrameThatStandsAgain() {
        KeyframeCourt c = withFiveRendered();
        c.key(0, 2, 0, 1, 0, false);
        A.is("13 void", 12, () -> c.state(12));
        c.key(0, 2, 0, 0, 5, false);
        A.is("13 stands again, by another key", 11, () -> c.state(12));
        c.key(0, 2, 0, 2, 0, false);
        c.uncut(0);
        c.unkey(0, 2, 0);
        A.is("13 stands again, not needed", 1, () -> c.state(12));
    }

    private static void neededAtTheEndsOfAShot() {
        KeyframeCourt c = new KeyframeCourt();
        c.cut(0, 50, 60);
        A.is("13 ahead of it", 0, () -> c.state(49));
        A.is("13 its first", 10, () -> c.state(50));
        A.is("13 its last", 10, () -> c.state(60));
        A.is("13 behind it", 0, () -> c.state(61));
    }

    private static void cutAndUncutMakeNothingVoid() {
        KeyframeCourt c = withFiveRendered();
        c.cut(0, 0, 119);
        A.is("14 none by a shot", 0, () -> c.voids());
        c.uncut(0);
        c.uncut(0);
        A.is("14 none without shots", 0, () -> c.voids());
        A.is("15 none without shots", 0, () -> c.voidsByAll());
    }

    private static void newBoneMakesAllVoid() {
        KeyframeCourt c = withFiveRendered();
        c.bone(-1, 0, 0);
        A.is("14 all five", 5, () -> c.voids());
        A.is("15 all five", 5, () -> c.voidsByAll());
        A.is("13 needed", 12, () -> c.state(10));
        A.is("13 not rendered", 0, () -> c.state(9));
    }

    private static void framesRenderedWithoutBones() {
        KeyframeCourt c = new KeyframeCourt();
        c.cut(0, 0, 0);
        c.machine(1);
        A.is("18 a frame without bones", 1000, () -> c.night(1));
        A.is("13 it stands", 11, () -> c.state(0));
        c.bone(-1, 0, 0);
        A.is("13 it is void", 12, () -> c.state(0));
    }

    private static void newBoneIsNeverUndone() {
        KeyframeCourt c = withFiveRendered();
        c.bone(0, 0, 0);
        A.is("3 a key makes none void", 0, () -> c.key(0, 0, 0, 9, 0, false));
        A.is("4 all values are what they were", 0, () -> c.unkey(0, 0, 0));
        A.is("14 all five are still void", 5, () -> c.voids());
    }

    private static void renderedAgainWithTheNewBone() {
        KeyframeCourt c = withFiveRendered();
        c.bone(-1, 0, 0);
        A.is("18 all five again", 5000, () -> c.night(1));
        A.is("14 none is void", 0, () -> c.voids());
        A.is("3 the new bone counts", 5, () -> c.key(1, 2, 0, 1, 0, false));
        A.is("3 the old one as well", 0, () -> c.key(0, 2, 0, 1, 0, false));
        A.is("4 the old one keeps them void", 0, () -> c.unkey(1, 2, 0));
        A.is("15 all five", 5, () -> c.voidsByAll());
    }

    private static void noVoids() {
        KeyframeCourt c = new KeyframeCourt();
        A.is("14 of a new object", 0, () -> c.voids());
        A.is("15 of a new object", 0, () -> c.voidsByAll());
    }

    private static void allVoid() {
        KeyframeCourt c = Courts.rendered();
        A.is("14 none", 0, () -> c.voids());
        c.key(0, 0, 0, 1, 0, false);
        A.is("14 all", 120, () -> c.voids());
        A.is("15 all", 120, () -> c.voidsByAll());
    }

    private static void voidsThatAreNotNeeded() {
        KeyframeCourt c = withFiveRendered();
        c.uncut(0);
        c.key(0, 0, 0, 1, 0, false);
        A.is("14 all five", 5, () -> c.voids());
        A.is("15 all five", 5, () -> c.voidsByAll());
        A.is("18 they are not rendered", 0, () -> c.night(24));
        A.is("14 all five still", 5, () -> c.voids());
    }
}
