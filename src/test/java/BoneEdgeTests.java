/** Boundary cases of bones, their offsets, headings and places. */
public final class BoneEdgeTests {
    private static final int LOW = Integer.MIN_VALUE;
    private static final int HIGH = Integer.MAX_VALUE;
    private static final Answers A = new Answers();

    public static void main(String[] args) {
        withoutBones();
        firstBoneHangsOnNothing();
        lastBoneAsParent();
        firstBoneAsParentOfAll();
        offsetRangeOfX();
        offsetRangeOfY();
        eighthBone();
        ninthBone();
        ninthBoneMakesNothingVoid();
        refusedBoneMakesNothingVoid();
        boneRange();
        channelRange();
        frameRange();
        rootIsNotTurnedByItself();
        childIsNotTurnedByItself();
        quartersOfAPlace();
        headingOfFour();
        headingsOverFour();
        headingOfSevenBones();
        turnIsThatOfTheFrame();
        placeWithoutKeys();
        farthestPlaces();
        A.close("BoneEdgeTests");
    }

    private static void withoutBones() {
        KeyframeCourt c = new KeyframeCourt();
        A.isMissing("2 parent 0", () -> c.bone(0, 0, 0));
        A.isMissing("3 key", () -> c.key(0, 0, 0, 0, 0, false));
        A.isMissing("4 unkey", () -> c.unkey(0, 0, 0));
        A.isMissing("5 value", () -> c.value(0, 0, 0));
        A.isMissing("6 span", () -> c.span(0, 0, 0));
        A.isMissing("7 keyAt", () -> c.keyAt(0));
        A.isMissing("8 place", () -> c.place(0, 0));
        A.is("9 artists of the first frame", 0, () -> c.artists(0));
        A.is("9 artists of the last frame", 0, () -> c.artists(119));
    }

    private static void firstBoneHangsOnNothing() {
        KeyframeCourt c = new KeyframeCourt();
        A.isMissing("2 parent -2", () -> c.bone(-2, 0, 0));
        A.is("2 parent -1", 0, () -> c.bone(-1, 7, 8));
        A.is("8 from x and y 0", Courts.at(7, 8), () -> c.place(0, 0));
    }

    private static void lastBoneAsParent() {
        KeyframeCourt c = Courts.withRoots(3);
        A.isMissing("2 itself as parent", () -> c.bone(3, 0, 0));
        A.is("2 the last as parent", 3, () -> c.bone(2, 1, 1));
    }

    private static void firstBoneAsParentOfAll() {
        KeyframeCourt c = Courts.withRoots(1);
        c.key(0, 0, 0, 50, 0, false);
        for (int number = 1; number < 8; number++) {
            int n = number;
            A.is("2 bone on bone 0", n, () -> c.bone(0, n, -n));
            A.is("8 its place", Courts.at(50 + n, -n), () -> c.place(n, 0));
        }
    }

    private static void offsetRangeOfX() {
        KeyframeCourt c = new KeyframeCourt();
        A.isUnfit("2 x -101", () -> c.bone(-1, -101, 0));
        A.isUnfit("2 x 101", () -> c.bone(-1, 101, 0));
        A.isUnfit("2 x lowest", () -> c.bone(-1, LOW, 0));
        A.isUnfit("2 x highest", () -> c.bone(-1, HIGH, 0));
        A.is("2 x -100", 0, () -> c.bone(-1, -100, 0));
        A.is("2 x 100", 1, () -> c.bone(-1, 100, 0));
        A.is("8 x -100", Courts.at(-100, 0), () -> c.place(0, 0));
        A.is("8 x 100", Courts.at(100, 0), () -> c.place(1, 0));
    }

    private static void offsetRangeOfY() {
        KeyframeCourt c = new KeyframeCourt();
        A.isUnfit("2 y -101", () -> c.bone(-1, 0, -101));
        A.isUnfit("2 y 101", () -> c.bone(-1, 0, 101));
        A.isUnfit("2 y lowest", () -> c.bone(-1, 0, LOW));
        A.isUnfit("2 y highest", () -> c.bone(-1, 0, HIGH));
        A.is("2 y -100", 0, () -> c.bone(-1, 0, -100));
        A.is("2 y 100", 1, () -> c.bone(-1, 0, 100));
        A.is("8 y -100", Courts.at(0, -100), () -> c.place(0, 0));
        A.is("8 y 100", Courts.at(0, 100), () -> c.place(1, 0));
    }

    private static void eighthBone() {
        KeyframeCourt c = Courts.withRoots(7);
        A.isMissing("5 bone 7 of seven", () -> c.value(7, 0, 0));
        A.is("2 the eighth", 7, () -> c.bone(6, 0, 0));
        A.is("3 a key of it", 0, () -> c.key(7, 2, 119, 3, 5, false));
        A.is("5 its value", 3, () -> c.value(7, 2, 0));
        A.is("6 its span", 119, () -> c.span(7, 2, 119));
        A.is("7 its key", 23119, () -> c.keyAt(0));
        A.is("9 its artist", 1 << 5, () -> c.artists(119));
        A.is("4 its key goes", 0, () -> c.unkey(7, 2, 119));
    }

    private static void ninthBone() {
        KeyframeCourt c = Courts.withRoots(8);
        A.isNotNow("2 a ninth on nothing", () -> c.bone(-1, 0, 0));
        A.isNotNow("2 a ninth on the first", () -> c.bone(0, 0, 0));
        A.isNotNow("2 a ninth on the eighth", () -> c.bone(7, 0, 0));
        A.isNotNow("2 a ninth at the ends of x and y", () -> c.bone(-1, 100, -100));
        A.isMissing("5 bone 8", () -> c.value(8, 0, 0));
        A.isMissing("8 bone 8", () -> c.place(8, 0));
        A.is("8 bone 7 is as it was", Courts.at(0, 0), () -> c.place(7, 0));
    }

    private static void ninthBoneMakesNothingVoid() {
        KeyframeCourt c = Courts.withRoots(8);
        c.cut(0, 0, 4);
        c.machine(5);
        c.night(1);
        A.isNotNow("2 a ninth", () -> c.bone(-1, 0, 0));
        A.is("14 none is void", 0, () -> c.voids());
        A.is("15 none is void", 0, () -> c.voidsByAll());
        A.is("13 it stands", 11, () -> c.state(4));
    }

    private static void refusedBoneMakesNothingVoid() {
        KeyframeCourt c = Courts.rendered();
        A.isUnfit("2 x out of range", () -> c.bone(0, 101, 0));
        A.isMissing("2 no such parent", () -> c.bone(1, 0, 0));
        A.is("14 none is void", 0, () -> c.voids());
        A.is("2 one that fits", 1, () -> c.bone(0, 100, 0));
        A.is("14 all are void", 120, () -> c.voids());
    }

    private static void boneRange() {
        KeyframeCourt c = Courts.withRoots(3);
        c.key(0, 0, 0, 1, 0, false);
        c.key(2, 0, 0, 2, 0, false);
        for (int no : new int[] {LOW, -1, 3, HIGH}) {
            A.isMissing("3 bone " + no, () -> c.key(no, 0, 0, 0, 0, false));
            A.isMissing("4 bone " + no, () -> c.unkey(no, 0, 0));
            A.isMissing("5 bone " + no, () -> c.value(no, 0, 0));
            A.isMissing("6 bone " + no, () -> c.span(no, 0, 0));
            A.isMissing("8 bone " + no, () -> c.place(no, 0));
        }
        A.is("5 the first bone", 1, () -> c.value(0, 0, 0));
        A.is("5 the last bone", 2, () -> c.value(2, 0, 0));
        A.is("6 of the last bone", 119, () -> c.span(2, 0, 0));
        A.is("4 of the last bone", 0, () -> c.unkey(2, 0, 0));
    }

    private static void channelRange() {
        KeyframeCourt c = Courts.withRoots(3);
        c.key(1, 0, 0, 1, 0, false);
        c.key(1, 2, 0, 2, 0, false);
        for (int no : new int[] {LOW, -1, 3, HIGH}) {
            A.isMissing("3 channel " + no, () -> c.key(1, no, 0, 0, 0, false));
            A.isMissing("4 channel " + no, () -> c.unkey(1, no, 0));
            A.isMissing("5 channel " + no, () -> c.value(1, no, 0));
            A.isMissing("6 channel " + no, () -> c.span(1, no, 0));
        }
        A.is("5 the first channel", 1, () -> c.value(1, 0, 0));
        A.is("5 the last channel", 2, () -> c.value(1, 2, 0));
        A.is("6 of the last channel", 119, () -> c.span(1, 2, 0));
        A.is("4 of the last channel", 0, () -> c.unkey(1, 2, 0));
    }

    private static void frameRange() {
        KeyframeCourt c = Courts.withRoots(1);
        c.key(0, 0, 0, 1, 0, false);
        c.key(0, 0, 119, 2, 1, false);
        for (int no : new int[] {LOW, -1, 120, HIGH}) {
            A.isMissing("3 frame " + no, () -> c.key(0, 0, no, 0, 0, false));
            A.isMissing("4 frame " + no, () -> c.unkey(0, 0, no));
            A.isMissing("5 frame " + no, () -> c.value(0, 0, no));
            A.isMissing("6 frame " + no, () -> c.span(0, 0, no));
            A.isMissing("8 frame " + no, () -> c.place(0, no));
            A.isMissing("9 frame " + no, () -> c.artists(no));
            A.isMissing("13 frame " + no, () -> c.state(no));
        }
        A.is("5 frame 0", 1, () -> c.value(0, 0, 0));
        A.is("5 frame 119", 2, () -> c.value(0, 0, 119));
        A.is("8 frame 0", Courts.at(1, 0), () -> c.place(0, 0));
        A.is("8 frame 119", Courts.at(2, 0), () -> c.place(0, 119));
        A.is("9 frame 0", 1, () -> c.artists(0));
        A.is("9 frame 119", 2, () -> c.artists(119));
        A.is("13 frame 0", 0, () -> c.state(0));
        A.is("13 frame 119", 0, () -> c.state(119));
    }

    private static void rootIsNotTurnedByItself() {
        KeyframeCourt c = new KeyframeCourt();
        c.bone(-1, 10, 20);
        c.key(0, 0, 0, 3, 0, false);
        c.key(0, 2, 0, 1, 0, false);
        A.is("8 nothing has heading 0", Courts.at(13, 20), () -> c.place(0, 0));
    }

    private static void childIsNotTurnedByItself() {
        KeyframeCourt c = Courts.withRoots(1);
        c.bone(0, 10, 20);
        c.key(1, 2, 0, 1, 0, false);
        A.is("8 by the heading of its parent alone", Courts.at(10, 20), () -> c.place(1, 0));
    }

    private static void quartersOfAPlace() {
        KeyframeCourt c = Courts.withRoots(1);
        c.bone(0, 3, -4);
        c.key(0, 2, 0, 0, 0, false);
        c.key(0, 2, 1, 1, 0, false);
        c.key(0, 2, 2, 2, 0, false);
        c.key(0, 2, 3, 3, 0, false);
        A.is("8 no quarter", Courts.at(3, -4), () -> c.place(1, 0));
        A.is("8 one quarter", Courts.at(4, 3), () -> c.place(1, 1));
        A.is("8 two quarters", Courts.at(-3, 4), () -> c.place(1, 2));
        A.is("8 three quarters", Courts.at(-4, -3), () -> c.place(1, 3));
    }

    private static void headingOfFour() {
        for (int turn = 1; turn < 4; turn++) {
            KeyframeCourt c = Courts.withChain(2);
            c.bone(1, 5, 2);
            c.key(0, 2, 0, turn, 0, false);
            c.key(1, 2, 0, 4 - turn, 0, false);
            A.is("8 a heading of 4 is 0", Courts.at(5, 2), () -> c.place(2, 0));
        }
    }

    private static void headingsOverFour() {
        KeyframeCourt c = Courts.withChain(2);
        c.bone(1, 5, 2);
        c.key(0, 2, 0, 3, 0, false);
        c.key(1, 2, 0, 2, 0, false);
        A.is("8 a heading of 5 is 1", Courts.at(-2, 5), () -> c.place(2, 0));
        c.key(1, 2, 0, 3, 0, false);
        A.is("8 a heading of 6 is 2", Courts.at(-5, -2), () -> c.place(2, 0));
    }

    private static void headingOfSevenBones() {
        KeyframeCourt c = Courts.withChain(7);
        c.bone(6, 10, 1);
        for (int bone = 0; bone < 7; bone++) {
            c.key(bone, 2, 0, 3, 0, false);
        }
        A.is("8 21 quarters are one", Courts.at(-1, 10), () -> c.place(7, 0));
        c.key(0, 2, 0, 2, 0, false);
        A.is("8 20 quarters are none", Courts.at(10, 1), () -> c.place(7, 0));
    }

    private static void turnIsThatOfTheFrame() {
        KeyframeCourt c = Courts.withRoots(1);
        c.bone(0, 10, 0);
        c.key(0, 2, 1, 2, 0, false);
        c.key(0, 2, 119, 1, 0, false);
        A.is("8 ahead of the first turn", Courts.at(-10, 0), () -> c.place(1, 0));
        A.is("8 between, turns are hard", Courts.at(-10, 0), () -> c.place(1, 118));
        A.is("8 at the last turn", Courts.at(0, 10), () -> c.place(1, 119));
    }

    private static void placeWithoutKeys() {
        KeyframeCourt c = Courts.withRoots(1);
        c.bone(0, 0, 0);
        A.is("8 x and y 0", 50005000, () -> c.place(0, 0));
        A.is("8 x and y 0 of a child", 50005000, () -> c.place(1, 119));
    }

    private static void farthestPlaces() {
        for (int sign = -1; sign <= 1; sign += 2) {
            KeyframeCourt c = new KeyframeCourt();
            for (int bone = 0; bone < 8; bone++) {
                c.bone(bone - 1, sign * 100, sign * 100);
                c.key(bone, 0, 0, sign * 200, 0, false);
                c.key(bone, 1, 0, sign * 200, 0, false);
            }
            int far = sign * 2400;
            A.is("8 the farthest place", Courts.at(far, far), () -> c.place(7, 0));
        }
    }
}
