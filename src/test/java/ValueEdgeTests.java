/** Boundary cases of a channel's values, of spans, and of the artists on whose keys a frame hangs. */
public final class ValueEdgeTests {
    private static final Answers A = new Answers();

    public static void main(String[] args) {
        withoutKeys();
        aheadOfTheFirst();
        aheadOfASoftFirst();
        behindTheLast();
        behindASoftLast();
        hardHolds();
        softGoesToTheNext();
        softNeighbours();
        softFromEndToEnd();
        roundedDownUpwards();
        roundedDownDownwards();
        roundedDownAcrossZero();
        exactDivisionIsNotRounded();
        largestProducts();
        softChainOfKeys();
        keyBetweenSoftOnes();
        channelsAreApart();
        spanOfAnOnlyKey();
        spanOfTheFirst();
        spanBehindAHardOne();
        spanBehindASoftOne();
        spanOfNeighbours();
        spanOfTheFirstAndLastFrame();
        spanChangesWithTheKeyAhead();
        spansOfNeighbourChannels();
        spanWithoutAKey();
        noArtists();
        artistsAheadOfTheFirst();
        artistsAtASoftKey();
        artistsBehindAHardKey();
        artistsBehindASoftLast();
        artistsOfAllBones();
        artistOfTwoKeys();
        allArtists();
        A.close("ValueEdgeTests");
    }

    private static KeyframeCourt withTwoKeys(int from, int value, boolean isSoft, int to, int valueThere) {
        KeyframeCourt c = Courts.withRoots(1);
        c.key(0, 0, from, value, 1, isSoft);
        c.key(0, 0, to, valueThere, 2, false);
        return c;
    }

    private static void withoutKeys() {
        KeyframeCourt c = Courts.withRoots(8);
        for (int channel = 0; channel < 3; channel++) {
            int ch = channel;
            A.is("5 frame 0", 0, () -> c.value(0, ch, 0));
            A.is("5 frame 119", 0, () -> c.value(7, ch, 119));
        }
    }

    private static void aheadOfTheFirst() {
        KeyframeCourt c = withTwoKeys(60, -7, false, 119, 9);
        A.is("5 frame 0", -7, () -> c.value(0, 0, 0));
        A.is("5 just ahead of it", -7, () -> c.value(0, 0, 59));
        A.is("5 at it", -7, () -> c.value(0, 0, 60));
    }

    private static void aheadOfASoftFirst() {
        KeyframeCourt c = withTwoKeys(60, 0, true, 70, 10);
        A.is("5 frame 0", 0, () -> c.value(0, 0, 0));
        A.is("5 just ahead of it", 0, () -> c.value(0, 0, 59));
        A.is("5 at it", 0, () -> c.value(0, 0, 60));
        A.is("5 just behind it", 1, () -> c.value(0, 0, 61));
    }

    private static void behindTheLast() {
        KeyframeCourt c = withTwoKeys(0, 5, true, 60, -9);
        A.is("5 at the last", -9, () -> c.value(0, 0, 60));
        A.is("5 just behind it", -9, () -> c.value(0, 0, 61));
        A.is("5 frame 119", -9, () -> c.value(0, 0, 119));
    }

    private static void behindASoftLast() {
        KeyframeCourt c = Courts.withRoots(1);
        c.key(0, 1, 0, 5, 0, true);
        A.is("5 an only soft one", 5, () -> c.value(0, 1, 119));
        c.key(0, 1, 118, 9, 0, true);
        A.is("5 a soft last one", 9, () -> c.value(0, 1, 119));
    }

    private static void hardHolds() {
        KeyframeCourt c = withTwoKeys(10, 5, false, 20, 25);
        A.is("5 just behind it", 5, () -> c.value(0, 0, 11));
        A.is("5 just ahead of the next", 5, () -> c.value(0, 0, 19));
        A.is("5 at the next", 25, () -> c.value(0, 0, 20));
    }

    private static void softGoesToTheNext() {
        KeyframeCourt c = withTwoKeys(10, 5, true, 20, 25);
        A.is("5 at it", 5, () -> c.value(0, 0, 10));
        A.is("5 just behind it", 7, () -> c.value(0, 0, 11));
        A.is("5 half way", 15, () -> c.value(0, 0, 15));
        A.is("5 just ahead of the next", 23, () -> c.value(0, 0, 19));
        A.is("5 at the next", 25, () -> c.value(0, 0, 20));
    }

    private static void softNeighbours() {
        KeyframeCourt c = withTwoKeys(10, -200, true, 11, 200);
        A.is("5 at it", -200, () -> c.value(0, 0, 10));
        A.is("5 at the next", 200, () -> c.value(0, 0, 11));
    }

    private static void softFromEndToEnd() {
        KeyframeCourt c = withTwoKeys(0, 0, true, 119, 119);
        for (int frame : new int[] {0, 1, 60, 118, 119}) {
            A.is("5 frame " + frame, frame, () -> c.value(0, 0, frame));
        }
    }

    private static void roundedDownUpwards() {
        KeyframeCourt c = withTwoKeys(0, 10, true, 3, 12);
        A.is("5 10 and 2/3", 10, () -> c.value(0, 0, 1));
        A.is("5 10 and 4/3", 11, () -> c.value(0, 0, 2));
    }

    private static void roundedDownDownwards() {
        KeyframeCourt c = withTwoKeys(0, 10, true, 3, 8);
        A.is("5 10 less 2/3", 9, () -> c.value(0, 0, 1));
        A.is("5 10 less 4/3", 8, () -> c.value(0, 0, 2));
        KeyframeCourt slow = withTwoKeys(0, 0, true, 119, -1);
        A.is("5 0 less 1/119", -1, () -> slow.value(0, 0, 1));
        A.is("5 0 less 118/119", -1, () -> slow.value(0, 0, 118));
    }

    private static void roundedDownAcrossZero() {
        KeyframeCourt up = withTwoKeys(0, -1, true, 4, 1);
        int[] rising = {-1, -1, 0, 0, 1};
        KeyframeCourt down = withTwoKeys(0, 1, true, 4, -1);
        int[] falling = {1, 0, 0, -1, -1};
        for (int frame = 0; frame < 5; frame++) {
            int f = frame;
            A.is("5 rising, frame " + f, rising[f], () -> up.value(0, 0, f));
            A.is("5 falling, frame " + f, falling[f], () -> down.value(0, 0, f));
        }
    }

    private static void exactDivisionIsNotRounded() {
        KeyframeCourt c = withTwoKeys(0, 0, true, 4, -8);
        A.is("5 a quarter", -2, () -> c.value(0, 0, 1));
        A.is("5 a half", -4, () -> c.value(0, 0, 2));
        A.is("5 three quarters", -6, () -> c.value(0, 0, 3));
    }

    private static void largestProducts() {
        KeyframeCourt up = withTwoKeys(0, -200, true, 119, 200);
        A.is("5 400 * 118 / 119 up", 196, () -> up.value(0, 0, 118));
        A.is("5 400 / 119 up", -197, () -> up.value(0, 0, 1));
        KeyframeCourt down = withTwoKeys(0, 200, true, 119, -200);
        A.is("5 400 * 118 / 119 down", -197, () -> down.value(0, 0, 118));
        A.is("5 400 / 119 down", 196, () -> down.value(0, 0, 1));
    }

    private static void softChainOfKeys() {
        KeyframeCourt c = Courts.withRoots(1);
        c.key(0, 1, 0, 0, 0, true);
        c.key(0, 1, 10, 10, 0, true);
        c.key(0, 1, 20, 0, 0, true);
        A.is("5 to the next one", 5, () -> c.value(0, 1, 5));
        A.is("5 from the one between", 9, () -> c.value(0, 1, 11));
        A.is("5 at the last", 0, () -> c.value(0, 1, 20));
        A.is("5 behind the last", 0, () -> c.value(0, 1, 21));
    }

    private static void keyBetweenSoftOnes() {
        KeyframeCourt c = withTwoKeys(0, 0, true, 10, 10);
        c.key(0, 0, 5, 50, 3, false);
        A.is("5 to the new one", 40, () -> c.value(0, 0, 4));
        A.is("5 the new one holds", 50, () -> c.value(0, 0, 9));
        c.unkey(0, 0, 5);
        A.is("5 as it was ahead", 4, () -> c.value(0, 0, 4));
        A.is("5 as it was behind", 9, () -> c.value(0, 0, 9));
    }

    private static void channelsAreApart() {
        KeyframeCourt c = Courts.withRoots(2);
        c.key(0, 0, 10, 8, 0, true);
        c.key(0, 1, 20, 50, 0, true);
        c.key(0, 2, 20, 3, 0, false);
        c.key(1, 0, 20, -50, 0, true);
        A.is("5 x without a later key", 8, () -> c.value(0, 0, 15));
        A.is("5 y without a later key", 50, () -> c.value(0, 1, 119));
        A.is("5 the turn", 3, () -> c.value(0, 2, 0));
        A.is("5 x of the next bone", -50, () -> c.value(1, 0, 0));
        A.is("5 y of the next bone", 0, () -> c.value(1, 1, 20));
    }

    private static void spanOfAnOnlyKey() {
        for (int frame : new int[] {0, 60, 119}) {
            KeyframeCourt c = Courts.withRoots(1);
            c.key(0, 0, frame, 1, 0, true);
            A.is("6 an only key at " + frame, 119, () -> c.span(0, 0, frame));
        }
    }

    private static void spanOfTheFirst() {
        A.is("6 hard", 69, () -> withTwoKeys(60, 1, false, 70, 1).span(0, 0, 60));
        A.is("6 soft", 69, () -> withTwoKeys(60, 1, true, 70, 1).span(0, 0, 60));
        A.is("6 hard, at frame 0", 69, () -> withTwoKeys(0, 1, false, 70, 1).span(0, 0, 0));
        A.is("6 soft, at frame 0", 0, () -> withTwoKeys(0, 1, true, 1, 1).span(0, 0, 0));
    }

    private static void spanBehindAHardOne() {
        A.is("6 the last", 70119, () -> withTwoKeys(60, 1, false, 70, 1).span(0, 0, 70));
        KeyframeCourt c = withTwoKeys(60, 1, false, 70, 1);
        c.key(0, 0, 80, 2, 0, false);
        A.is("6 between", 70079, () -> c.span(0, 0, 70));
    }

    private static void spanBehindASoftOne() {
        A.is("6 the last", 61119, () -> withTwoKeys(60, 1, true, 70, 1).span(0, 0, 70));
        KeyframeCourt c = withTwoKeys(60, 1, true, 70, 1);
        c.key(0, 0, 80, 2, 0, false);
        A.is("6 between", 61079, () -> c.span(0, 0, 70));
    }

    private static void spanOfNeighbours() {
        for (boolean isSoft : new boolean[] {false, true}) {
            KeyframeCourt c = withTwoKeys(60, 1, isSoft, 61, 1);
            c.key(0, 0, 62, 2, 0, false);
            A.is("6 the first", 60, () -> c.span(0, 0, 60));
            A.is("6 the one between has its frame alone", 61061, () -> c.span(0, 0, 61));
            A.is("6 the last", 62119, () -> c.span(0, 0, 62));
        }
    }

    private static void spanOfTheFirstAndLastFrame() {
        KeyframeCourt hard = withTwoKeys(0, 1, false, 119, 1);
        A.is("6 hard at frame 0", 118, () -> hard.span(0, 0, 0));
        A.is("6 behind a hard one at frame 119", 119119, () -> hard.span(0, 0, 119));
        KeyframeCourt soft = withTwoKeys(0, 1, true, 119, 1);
        A.is("6 soft at frame 0", 118, () -> soft.span(0, 0, 0));
        A.is("6 behind a soft one at frame 119", 1119, () -> soft.span(0, 0, 119));
    }

    private static void spanChangesWithTheKeyAhead() {
        KeyframeCourt c = withTwoKeys(60, 1, false, 70, 1);
        A.is("6 behind a hard one", 70119, () -> c.span(0, 0, 70));
        c.key(0, 0, 60, 1, 0, true);
        A.is("6 behind a soft one", 61119, () -> c.span(0, 0, 70));
        c.unkey(0, 0, 60);
        A.is("6 the first", 119, () -> c.span(0, 0, 70));
    }

    private static void spansOfNeighbourChannels() {
        KeyframeCourt c = Courts.withRoots(2);
        c.key(0, 1, 60, 0, 0, true);
        c.key(0, 2, 70, 0, 0, false);
        c.key(1, 0, 80, 0, 0, true);
        A.is("6 no key of the next channel is its next", 119, () -> c.span(0, 1, 60));
        A.is("6 it is the first of its channel", 119, () -> c.span(0, 2, 70));
        A.is("6 it is the first of its bone", 119, () -> c.span(1, 0, 80));
    }

    private static void spanWithoutAKey() {
        KeyframeCourt c = withTwoKeys(60, 1, true, 70, 1);
        A.isMissing("6 ahead of a key", () -> c.span(0, 0, 59));
        A.isMissing("6 behind a key", () -> c.span(0, 0, 61));
        A.isMissing("6 in another channel", () -> c.span(0, 1, 60));
        A.isMissing("6 at the last frame", () -> c.span(0, 0, 119));
        c.unkey(0, 0, 60);
        A.isMissing("6 of a key that is gone", () -> c.span(0, 0, 60));
    }

    private static void noArtists() {
        KeyframeCourt c = Courts.withRoots(8);
        A.is("9 frame 0", 0, () -> c.artists(0));
        A.is("9 frame 119", 0, () -> c.artists(119));
    }

    private static void artistsAheadOfTheFirst() {
        for (boolean isSoft : new boolean[] {false, true}) {
            KeyframeCourt c = withTwoKeys(60, 1, isSoft, 70, 1);
            A.is("9 frame 0", 2, () -> c.artists(0));
            A.is("9 just ahead of it", 2, () -> c.artists(59));
        }
    }

    private static void artistsAtASoftKey() {
        KeyframeCourt c = withTwoKeys(60, 1, true, 70, 1);
        A.is("9 at it", 2, () -> c.artists(60));
        A.is("9 just behind it", 6, () -> c.artists(61));
        A.is("9 just ahead of the next", 6, () -> c.artists(69));
        A.is("9 at the next", 4, () -> c.artists(70));
        A.is("9 behind the next", 4, () -> c.artists(71));
    }

    private static void artistsBehindAHardKey() {
        KeyframeCourt c = withTwoKeys(60, 1, false, 70, 1);
        A.is("9 at it", 2, () -> c.artists(60));
        A.is("9 just behind it", 2, () -> c.artists(61));
        A.is("9 just ahead of the next", 2, () -> c.artists(69));
        A.is("9 at the next", 4, () -> c.artists(70));
    }

    private static void artistsBehindASoftLast() {
        KeyframeCourt c = Courts.withRoots(1);
        c.key(0, 0, 60, 1, 3, true);
        A.is("9 just behind it", 8, () -> c.artists(61));
        A.is("9 at the last frame", 8, () -> c.artists(119));
    }

    private static void artistsOfAllBones() {
        KeyframeCourt c = Courts.withRoots(8);
        c.key(0, 0, 0, 0, 0, false);
        c.key(7, 2, 119, 0, 5, false);
        A.is("9 the first channel and the last", 33, () -> c.artists(60));
    }

    private static void artistOfTwoKeys() {
        KeyframeCourt c = Courts.withRoots(1);
        c.key(0, 0, 0, 0, 4, false);
        c.key(0, 1, 0, 0, 4, true);
        c.key(0, 1, 119, 0, 4, false);
        A.is("9 once in the set", 16, () -> c.artists(60));
        c.unkey(0, 0, 0);
        A.is("9 still in the set", 16, () -> c.artists(60));
    }

    private static void allArtists() {
        KeyframeCourt c = Courts.withRoots(2);
        for (int artist = 0; artist < 6; artist++) {
            c.key(artist / 3, artist % 3, 60, 0, artist, false);
        }
        A.is("9 all six at frame 0", 63, () -> c.artists(0));
        A.is("9 all six at frame 119", 63, () -> c.artists(119));
    }
}
