/** Boundary cases of setting, taking and counting keys. */
public final class KeyEdgeTests {
    private static final int LOW = Integer.MIN_VALUE;
    private static final int HIGH = Integer.MAX_VALUE;
    private static final Answers A = new Answers();

    public static void main(String[] args) {
        valueRange(0, "x");
        valueRange(1, "y");
        valueRangeOfTurns();
        turnsAreHard();
        artistRange();
        framesOfKeys();
        refusedKeyInPlaceOfOne();
        oneKeyForAFrame();
        keysBehindANewOne();
        keysBehindOneTaken();
        eightiethKey();
        eightyFirstKey();
        inPlaceOfOneOfEighty();
        roomBehindUnkey();
        eightyKeysOfOneChannel();
        noVoidsWithoutRendering();
        firstKeyMakesAllVoid();
        keyOfTheLastFrame();
        keyOfTheSameValue();
        onlyValuesMakeVoid();
        someVoidAndSomeStandAgain();
        allStandAgain();
        twoChannelsOfOneFrame();
        unkeyWithoutKeys();
        unkeyTwice();
        unkeyTheOnlyKey();
        unkeyTheFirstKey();
        unkeyTheLastKey();
        refusedUnkey();
        keyAtOfNone();
        keyAtOfOne();
        keyAtOfEighty();
        orderOfKeys();
        A.close("KeyEdgeTests");
    }

    private static KeyframeCourt withEightyKeys() {
        KeyframeCourt c = Courts.withRoots(1);
        for (int frame = 0; frame < 80; frame++) {
            c.key(0, 0, frame, frame, 0, false);
        }
        return c;
    }

    private static void valueRange(int channel, String name) {
        KeyframeCourt c = Courts.withRoots(1);
        for (int value : new int[] {LOW, -201, 201, HIGH}) {
            A.isUnfit("3 " + name + " " + value, () -> c.key(0, channel, 0, value, 0, false));
            A.isUnfit("3 soft " + name + " " + value, () -> c.key(0, channel, 0, value, 0, true));
        }
        A.isMissing("7 no key was set", () -> c.keyAt(0));
        for (int value : new int[] {-200, 200}) {
            A.is("3 " + name + " " + value, 0, () -> c.key(0, channel, 0, value, 0, true));
            A.is("5 " + name + " " + value, value, () -> c.value(0, channel, 0));
        }
    }

    private static void valueRangeOfTurns() {
        KeyframeCourt c = Courts.withRoots(1);
        for (int value : new int[] {LOW, -1, 4, 200, HIGH}) {
            A.isUnfit("3 turn " + value, () -> c.key(0, 2, 0, value, 0, false));
        }
        A.isMissing("7 no key was set", () -> c.keyAt(0));
        for (int value = 3; value >= 0; value--) {
            int turn = value;
            A.is("3 turn " + turn, 0, () -> c.key(0, 2, 0, turn, 0, false));
            A.is("5 turn " + turn, turn, () -> c.value(0, 2, 0));
        }
    }

    private static void turnsAreHard() {
        KeyframeCourt c = Courts.withRoots(1);
        A.isUnfit("3 a soft turn of 0", () -> c.key(0, 2, 0, 0, 0, true));
        A.isUnfit("3 a soft turn of 3", () -> c.key(0, 2, 0, 3, 0, true));
        A.isUnfit("3 a soft turn of 4", () -> c.key(0, 2, 0, 4, 0, true));
        A.isMissing("7 no key was set", () -> c.keyAt(0));
        c.key(0, 2, 0, 2, 1, false);
        A.isUnfit("3 soft in place of a hard one", () -> c.key(0, 2, 0, 2, 4, true));
        A.is("9 the artist of the hard one", 1 << 1, () -> c.artists(0));
    }

    private static void artistRange() {
        KeyframeCourt c = Courts.withRoots(1);
        for (int artist : new int[] {LOW, -1, 6, HIGH}) {
            A.isMissing("3 artist " + artist, () -> c.key(0, 0, 0, 0, artist, false));
        }
        A.isMissing("7 no key was set", () -> c.keyAt(0));
        A.is("3 artist 0", 0, () -> c.key(0, 0, 0, 0, 0, false));
        A.is("9 artist 0", 1, () -> c.artists(0));
        A.is("3 artist 5", 0, () -> c.key(0, 0, 0, 0, 5, false));
        A.is("9 artist 5", 32, () -> c.artists(0));
    }

    private static void framesOfKeys() {
        KeyframeCourt c = Courts.withRoots(1);
        A.is("3 frame 0", 0, () -> c.key(0, 0, 0, 1, 0, false));
        A.is("3 frame 119", 0, () -> c.key(0, 0, 119, 2, 0, false));
        A.is("7 frame 0", 0, () -> c.keyAt(0));
        A.is("7 frame 119", 119, () -> c.keyAt(1));
        A.is("5 frame 118", 1, () -> c.value(0, 0, 118));
        A.is("5 frame 119", 2, () -> c.value(0, 0, 119));
    }

    private static void refusedKeyInPlaceOfOne() {
        KeyframeCourt c = Courts.withRoots(1);
        c.key(0, 0, 10, 7, 1, true);
        c.key(0, 0, 20, 17, 1, false);
        A.isUnfit("3 value 201", () -> c.key(0, 0, 10, 201, 2, false));
        A.isMissing("3 artist 6", () -> c.key(0, 0, 10, 0, 6, false));
        A.is("5 the value is as it was", 7, () -> c.value(0, 0, 10));
        A.is("5 it is still soft", 12, () -> c.value(0, 0, 15));
        A.is("9 the artist is as it was", 1 << 1, () -> c.artists(10));
    }

    private static void oneKeyForAFrame() {
        KeyframeCourt c = Courts.withRoots(2);
        c.key(0, 1, 10, 5, 1, true);
        c.key(0, 1, 20, 15, 1, false);
        c.key(0, 1, 10, 6, 2, false);
        A.is("5 the later value", 6, () -> c.value(0, 1, 10));
        A.is("5 it is hard then", 6, () -> c.value(0, 1, 15));
        A.is("9 the later artist", 1 << 2, () -> c.artists(10));
        A.isMissing("7 two keys alone", () -> c.keyAt(2));
        A.is("3 another channel has its own", 0, () -> c.key(0, 0, 10, 9, 3, false));
        A.is("3 another bone has its own", 0, () -> c.key(1, 1, 10, 8, 4, false));
        A.is("7 four keys", 4010, () -> c.keyAt(3));
        A.is("5 the first is as it was", 6, () -> c.value(0, 1, 10));
    }

    private static void keysBehindANewOne() {
        KeyframeCourt c = Courts.withRoots(1);
        c.key(0, 0, 20, 10, 1, true);
        c.key(0, 0, 30, 20, 2, false);
        c.key(0, 0, 0, 0, 3, false);
        A.is("5 the soft one is soft", 15, () -> c.value(0, 0, 25));
        A.is("9 by both artists", 6, () -> c.artists(25));
        A.is("9 the last one's artist", 4, () -> c.artists(30));
        A.is("9 the new one's artist", 8, () -> c.artists(19));
    }

    private static void keysBehindOneTaken() {
        KeyframeCourt c = Courts.withRoots(1);
        c.key(0, 0, 0, 0, 3, false);
        c.key(0, 0, 20, 10, 1, true);
        c.key(0, 0, 30, 20, 2, false);
        c.unkey(0, 0, 0);
        A.is("5 the soft one is soft", 15, () -> c.value(0, 0, 25));
        A.is("9 by both artists", 6, () -> c.artists(25));
        A.is("9 the last one's artist", 4, () -> c.artists(30));
        A.is("9 the first one's artist then", 2, () -> c.artists(0));
    }

    private static void eightiethKey() {
        KeyframeCourt c = Courts.withRoots(1);
        for (int frame = 0; frame < 79; frame++) {
            c.key(0, 0, frame, frame, 0, false);
        }
        A.isMissing("7 79 keys alone", () -> c.keyAt(79));
        A.is("3 the 80th", 0, () -> c.key(0, 0, 119, 3, 0, false));
        A.is("7 the 80th", 119, () -> c.keyAt(79));
        A.is("5 its value", 3, () -> c.value(0, 0, 119));
    }

    private static void eightyFirstKey() {
        KeyframeCourt c = withEightyKeys();
        A.isNotNow("3 of the same channel", () -> c.key(0, 0, 80, 0, 0, false));
        A.isNotNow("3 of another channel", () -> c.key(0, 1, 0, 0, 0, true));
        A.isNotNow("3 of a turn", () -> c.key(0, 2, 119, 3, 5, false));
        A.isMissing("7 80 keys alone", () -> c.keyAt(80));
        A.is("5 behind the last key", 79, () -> c.value(0, 0, 80));
        A.is("5 the other channel", 0, () -> c.value(0, 1, 0));
        A.is("9 its artist set none", 1, () -> c.artists(119));
    }

    private static void inPlaceOfOneOfEighty() {
        KeyframeCourt c = withEightyKeys();
        A.is("3 the first of 80", 0, () -> c.key(0, 0, 0, -9, 1, false));
        A.is("3 the last of 80", 0, () -> c.key(0, 0, 79, -8, 2, false));
        A.is("5 the first", -9, () -> c.value(0, 0, 0));
        A.is("5 the second", 1, () -> c.value(0, 0, 1));
        A.is("5 the last", -8, () -> c.value(0, 0, 119));
        A.isMissing("7 80 keys alone", () -> c.keyAt(80));
    }

    private static void roomBehindUnkey() {
        KeyframeCourt c = withEightyKeys();
        A.isNotNow("3 no room", () -> c.key(0, 2, 0, 1, 0, false));
        c.unkey(0, 0, 40);
        A.is("3 room for one", 0, () -> c.key(0, 2, 0, 1, 0, false));
        A.isNotNow("3 no room for two", () -> c.key(0, 0, 40, 1, 0, false));
        A.is("5 the one that went", 39, () -> c.value(0, 0, 40));
    }

    private static void eightyKeysOfOneChannel() {
        KeyframeCourt c = withEightyKeys();
        for (int frame = 0; frame < 80; frame++) {
            int f = frame;
            A.is("7 key " + f, f, () -> c.keyAt(f));
            A.is("5 value " + f, f, () -> c.value(0, 0, f));
            A.is("6 span " + f, 1000 * f + (f < 79 ? f : 119), () -> c.span(0, 0, f));
        }
    }

    private static void noVoidsWithoutRendering() {
        KeyframeCourt c = Courts.withRoots(1);
        c.cut(0, 0, 119);
        A.is("3 none was rendered", 0, () -> c.key(0, 0, 0, 200, 0, false));
        A.is("4 none was rendered", 0, () -> c.unkey(0, 0, 0));
        A.is("14 none is void", 0, () -> c.voids());
    }

    private static void firstKeyMakesAllVoid() {
        KeyframeCourt c = Courts.rendered();
        A.is("3 ahead of it all have its value", 120, () -> c.key(0, 0, 119, 1, 0, false));
        A.is("13 frame 0", 12, () -> c.state(0));
        A.is("13 frame 119", 12, () -> c.state(119));
    }

    private static void keyOfTheLastFrame() {
        KeyframeCourt c = Courts.rendered();
        c.key(0, 0, 0, 0, 0, false);
        A.is("3 one frame alone", 1, () -> c.key(0, 0, 119, 1, 0, false));
        A.is("13 frame 118", 11, () -> c.state(118));
        A.is("13 frame 119", 12, () -> c.state(119));
        A.is("4 one frame alone", -1, () -> c.unkey(0, 0, 119));
    }

    private static void keyOfTheSameValue() {
        KeyframeCourt c = Courts.rendered();
        A.is("3 as without keys", 0, () -> c.key(0, 1, 60, 0, 0, false));
        A.is("4 as with the key", 0, () -> c.unkey(0, 1, 60));
        A.is("14 none is void", 0, () -> c.voids());
    }

    private static void onlyValuesMakeVoid() {
        KeyframeCourt c = Courts.rendered();
        c.key(0, 0, 10, 0, 0, false);
        A.is("3 another artist", 0, () -> c.key(0, 0, 10, 0, 5, false));
        A.is("3 soft without a later key", 0, () -> c.key(0, 0, 10, 0, 5, true));
        A.is("3 soft to the same value", 0, () -> c.key(0, 0, 20, 0, 5, true));
        A.is("14 none is void", 0, () -> c.voids());
        A.is("15 none is void", 0, () -> c.voidsByAll());
    }

    /** From 0 at frame 10 to 10 at frame 20; with -1 at frame 10 only frame 11 is 0 between them. */
    private static void someVoidAndSomeStandAgain() {
        KeyframeCourt c = Courts.rendered();
        c.key(0, 0, 0, 0, 0, false);
        c.key(0, 0, 10, 0, 0, true);
        A.is("3 frames 11 to 119", 109, () -> c.key(0, 0, 20, 10, 0, false));
        A.is("3 frames 30 to 119", -90, () -> c.key(0, 0, 30, 0, 0, false));
        A.is("3 one more and one less", 0, () -> c.key(0, 0, 10, -1, 0, true));
        A.is("13 frame 10 is void", 12, () -> c.state(10));
        A.is("13 frame 11 stands again", 11, () -> c.state(11));
        A.is("13 frame 12 is still void", 12, () -> c.state(12));
        A.is("14 as many as before", 19, () -> c.voids());
        A.is("4 frames 10 and 12 to 19 stand again", -9, () -> c.unkey(0, 0, 10));
    }

    private static void allStandAgain() {
        KeyframeCourt c = Courts.rendered();
        A.is("3 all become void", 120, () -> c.key(0, 2, 0, 1, 0, false));
        A.is("3 another value is void too", 0, () -> c.key(0, 2, 0, 3, 0, false));
        A.is("3 all stand again", -120, () -> c.key(0, 2, 0, 0, 0, false));
        A.is("14 none is void", 0, () -> c.voids());
    }

    private static void twoChannelsOfOneFrame() {
        KeyframeCourt c = Courts.rendered();
        A.is("3 all become void", 120, () -> c.key(0, 0, 0, 1, 0, false));
        A.is("3 they are void already", 0, () -> c.key(0, 1, 0, 1, 0, false));
        A.is("4 the other channel keeps them so", 0, () -> c.unkey(0, 0, 0));
        A.is("4 all stand again", -120, () -> c.unkey(0, 1, 0));
    }

    private static void unkeyWithoutKeys() {
        KeyframeCourt c = Courts.withRoots(1);
        A.isMissing("4 no key at all", () -> c.unkey(0, 0, 0));
        c.key(0, 0, 5, 1, 0, false);
        A.isMissing("4 none at the frame ahead", () -> c.unkey(0, 0, 4));
        A.isMissing("4 none at the frame behind", () -> c.unkey(0, 0, 6));
        A.isMissing("4 none of the channel behind", () -> c.unkey(0, 1, 5));
        A.is("4 the one there is", 0, () -> c.unkey(0, 0, 5));
    }

    private static void unkeyTwice() {
        KeyframeCourt c = Courts.withRoots(1);
        c.key(0, 0, 0, 1, 0, false);
        c.unkey(0, 0, 0);
        A.isMissing("4 it is gone", () -> c.unkey(0, 0, 0));
        A.is("3 it can be set again", 0, () -> c.key(0, 0, 0, 2, 0, false));
        A.is("4 it can be taken again", 0, () -> c.unkey(0, 0, 0));
    }

    private static void unkeyTheOnlyKey() {
        KeyframeCourt c = Courts.rendered();
        c.key(0, 0, 60, 9, 3, false);
        A.is("4 all stand again", -120, () -> c.unkey(0, 0, 60));
        A.is("5 the value is 0", 0, () -> c.value(0, 0, 60));
        A.is("9 no artist", 0, () -> c.artists(60));
        A.isMissing("7 no key", () -> c.keyAt(0));
    }

    private static void unkeyTheFirstKey() {
        KeyframeCourt c = Courts.rendered();
        c.key(0, 0, 40, 0, 1, false);
        A.is("3 from frame 60 on", 60, () -> c.key(0, 0, 60, 9, 2, false));
        A.is("4 ahead of frame 60 too", 60, () -> c.unkey(0, 0, 40));
        A.is("5 the value of the second", 9, () -> c.value(0, 0, 0));
        A.is("6 the second is the first", 119, () -> c.span(0, 0, 60));
    }

    private static void unkeyTheLastKey() {
        KeyframeCourt c = Courts.rendered();
        c.key(0, 0, 40, 0, 1, true);
        A.is("3 behind frame 40", 79, () -> c.key(0, 0, 60, 20, 2, false));
        A.is("4 all stand again", -79, () -> c.unkey(0, 0, 60));
        A.is("5 soft without a later key", 0, () -> c.value(0, 0, 119));
        A.is("6 the other is the only one", 119, () -> c.span(0, 0, 40));
    }

    private static void refusedUnkey() {
        KeyframeCourt c = Courts.rendered();
        c.key(0, 0, 60, 9, 2, false);
        A.isMissing("4 no key at frame 61", () -> c.unkey(0, 0, 61));
        A.isMissing("4 bone 1", () -> c.unkey(1, 0, 60));
        A.isMissing("4 frame 120", () -> c.unkey(0, 0, 120));
        A.is("14 all are void", 120, () -> c.voids());
        A.is("7 the key is there", 60, () -> c.keyAt(0));
        A.is("5 its value", 9, () -> c.value(0, 0, 60));
    }

    private static void keyAtOfNone() {
        KeyframeCourt c = Courts.withRoots(1);
        for (int place : new int[] {LOW, -1, 0, 1, HIGH}) {
            A.isMissing("7 place " + place, () -> c.keyAt(place));
        }
    }

    private static void keyAtOfOne() {
        KeyframeCourt c = Courts.withRoots(1);
        c.key(0, 0, 0, 0, 0, false);
        A.is("7 the first key", 0, () -> c.keyAt(0));
        A.isMissing("7 place -1", () -> c.keyAt(-1));
        A.isMissing("7 place 1", () -> c.keyAt(1));
    }

    private static void keyAtOfEighty() {
        KeyframeCourt c = withEightyKeys();
        A.is("7 the first", 0, () -> c.keyAt(0));
        A.is("7 the last", 79, () -> c.keyAt(79));
        for (int place : new int[] {LOW, -1, 80, HIGH}) {
            A.isMissing("7 place " + place, () -> c.keyAt(place));
        }
    }

    private static void orderOfKeys() {
        KeyframeCourt c = Courts.withRoots(8);
        c.key(7, 2, 119, 0, 0, false);
        c.key(7, 0, 119, 0, 0, false);
        c.key(0, 2, 0, 0, 0, false);
        c.key(0, 0, 119, 0, 0, false);
        c.key(0, 0, 0, 0, 0, false);
        int[] codes = {0, 119, 2000, 21119, 23119};
        for (int place = 0; place < codes.length; place++) {
            int p = place;
            A.is("7 place " + p, codes[p], () -> c.keyAt(p));
        }
    }
}
