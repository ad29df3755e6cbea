/** Boundary cases of the rate, of seconds and payments, and of an object's last calls. */
public final class RoyaltyEdgeTests {
    private static final int LOW = Integer.MIN_VALUE;
    private static final int HIGH = Integer.MAX_VALUE;
    private static final int CALLS = 512;
    private static final Answers A = new Answers();

    public static void main(String[] args) {
        rateRange();
        refusedRate();
        artistRange();
        secondsWithoutFilm();
        secondsWithoutKeys();
        secondsRoundedDown();
        secondsOfTwoShots();
        secondsOfFramesInTheFilmAgain();
        secondsOfTheLongestFilm();
        secondsOfTwoArtists();
        secondsOfAnArtistTwiceInAFrame();
        secondsAreThoseOfNow();
        secondsOfFramesThatDoNotStand();
        showWithoutFilm();
        showOfAFilmTakenAway();
        showNotRendered();
        showWithOneFrameNotRendered();
        showWithOneVoidFrame();
        showWithVoidFramesNotNeeded();
        showOfFramesThatStandAgain();
        showBehindANewBone();
        showOfOneFrame();
        showOf23Frames();
        showAtRate0();
        showAtTheHighestRate();
        showTwice();
        showOfNobodysFilm();
        refusedShow();
        moneyRange();
        moneyIsKeptApart();
        largestPayments();
        lastCallOfAll();
        A.close("RoyaltyEdgeTests");
    }

    /** A film of the first frames, all rendered, by one key of artist 1. */
    private static KeyframeCourt filmed(int frames) {
        KeyframeCourt c = Courts.withRoots(1);
        c.key(0, 0, 0, 7, 1, false);
        c.cut(0, 0, frames - 1);
        c.machine(5);
        c.machine(5);
        Courts.passNights(c, 4);
        return c;
    }

    private static void rateRange() {
        KeyframeCourt c = new KeyframeCourt();
        for (int rate : new int[] {LOW, -1, 1001, HIGH}) {
            A.isUnfit("20 rate " + rate, () -> c.setRate(rate));
        }
        A.is("20 the rate at first", 0, () -> c.setRate(1000));
        A.is("20 1000 ahead of 0", 1000, () -> c.setRate(0));
        A.is("20 0 ahead of 0", 0, () -> c.setRate(0));
    }

    private static void refusedRate() {
        KeyframeCourt c = filmed(24);
        c.setRate(9);
        A.isUnfit("20 rate -1", () -> c.setRate(-1));
        A.isUnfit("20 rate 1001", () -> c.setRate(1001));
        A.is("22 by the rate as it was", 9, () -> c.show());
        A.is("20 the rate as it was", 9, () -> c.setRate(9));
    }

    private static void artistRange() {
        KeyframeCourt c = Courts.withRoots(1);
        c.key(0, 0, 0, 0, 0, false);
        c.key(0, 1, 0, 0, 5, false);
        c.cut(0, 0, 23);
        for (int artist : new int[] {LOW, -1, 6, HIGH}) {
            A.isMissing("21 artist " + artist, () -> c.seconds(artist));
        }
        A.is("21 artist 0", 1, () -> c.seconds(0));
        A.is("21 artist 1", 0, () -> c.seconds(1));
        A.is("21 artist 5", 1, () -> c.seconds(5));
    }

    private static void secondsWithoutFilm() {
        KeyframeCourt c = Courts.withRoots(1);
        c.key(0, 0, 0, 0, 0, false);
        A.is("21 no shot", 0, () -> c.seconds(0));
        A.is("21 no shot, the last artist", 0, () -> c.seconds(5));
    }

    private static void secondsWithoutKeys() {
        KeyframeCourt c = new KeyframeCourt();
        c.cut(0, 0, 119);
        A.is("21 no bone", 0, () -> c.seconds(0));
        c.bone(-1, 0, 0);
        A.is("21 no key", 0, () -> c.seconds(0));
    }

    private static void secondsRoundedDown() {
        int[] frames = {1, 23, 24, 25, 47, 48, 119, 120};
        int[] seconds = {0, 0, 1, 1, 1, 2, 4, 5};
        for (int i = 0; i < frames.length; i++) {
            KeyframeCourt c = Courts.withRoots(1);
            c.key(0, 2, 119, 3, 4, false);
            c.cut(0, 0, frames[i] - 1);
            A.is("21 frames " + frames[i], seconds[i], () -> c.seconds(4));
        }
    }

    private static void secondsOfTwoShots() {
        KeyframeCourt c = Courts.withRoots(1);
        c.key(0, 0, 0, 0, 0, false);
        c.cut(0, 0, 11);
        c.cut(1, 50, 60);
        A.is("21 12 and 11 frames", 0, () -> c.seconds(0));
        c.cut(1, 119, 119);
        A.is("21 one more", 1, () -> c.seconds(0));
        c.uncut(0);
        A.is("21 12 less", 0, () -> c.seconds(0));
    }

    private static void secondsOfFramesInTheFilmAgain() {
        KeyframeCourt c = Courts.withRoots(1);
        c.key(0, 0, 0, 0, 0, false);
        for (int shot = 0; shot < 7; shot++) {
            c.cut(shot, 5, 7);
        }
        A.is("21 three frames seven times", 0, () -> c.seconds(0));
        c.cut(7, 5, 7);
        A.is("21 three frames eight times", 1, () -> c.seconds(0));
    }

    private static void secondsOfTheLongestFilm() {
        KeyframeCourt c = Courts.withRoots(1);
        c.key(0, 0, 0, 0, 0, false);
        for (int shot = 0; shot < 10; shot++) {
            c.cut(shot, 0, 119);
        }
        A.is("21 1200 frames", 50, () -> c.seconds(0));
    }

    private static void secondsOfTwoArtists() {
        KeyframeCourt c = Courts.withRoots(1);
        c.key(0, 0, 0, 0, 0, true);
        c.key(0, 0, 25, 0, 1, false);
        c.cut(0, 0, 24);
        A.is("21 25 frames of the soft one", 1, () -> c.seconds(0));
        A.is("21 24 frames of the next one", 1, () -> c.seconds(1));
        c.uncut(0);
        c.cut(0, 0, 23);
        A.is("21 24 frames of the soft one", 1, () -> c.seconds(0));
        A.is("21 23 frames of the next one", 0, () -> c.seconds(1));
    }

    private static void secondsOfAnArtistTwiceInAFrame() {
        KeyframeCourt c = Courts.withRoots(2);
        for (int track = 0; track < 6; track++) {
            c.key(track / 3, track % 3, 0, 0, 3, false);
        }
        c.cut(0, 0, 23);
        A.is("21 each frame once", 1, () -> c.seconds(3));
    }

    private static void secondsAreThoseOfNow() {
        KeyframeCourt c = filmed(24);
        A.is("21 artist 1", 1, () -> c.seconds(1));
        A.is("3 the same value by artist 2", 0, () -> c.key(0, 0, 0, 7, 2, false));
        A.is("21 artist 1 then", 0, () -> c.seconds(1));
        A.is("21 artist 2 then", 1, () -> c.seconds(2));
        c.setRate(5);
        c.show();
        A.is("23 artist 1", 0, () -> c.money(1));
        A.is("23 artist 2", 5, () -> c.money(2));
    }

    private static void secondsOfFramesThatDoNotStand() {
        KeyframeCourt c = filmed(24);
        c.key(0, 0, 0, 8, 1, false);
        A.is("21 void frames count", 1, () -> c.seconds(1));
        c.cut(0, 96, 119);
        A.is("21 frames not rendered count", 2, () -> c.seconds(1));
    }

    private static void showWithoutFilm() {
        KeyframeCourt c = new KeyframeCourt();
        A.isNotNow("22 a new object", () -> c.show());
    }

    private static void showOfAFilmTakenAway() {
        KeyframeCourt c = filmed(24);
        c.setRate(1);
        c.uncut(0);
        A.isNotNow("22 no frame is left", () -> c.show());
        A.is("23 nothing is paid", 0, () -> c.money(1));
        c.cut(0, 0, 23);
        A.is("22 it is back", 1, () -> c.show());
    }

    private static void showNotRendered() {
        KeyframeCourt c = Courts.withRoots(1);
        c.cut(0, 0, 0);
        A.isNotNow("22 its only frame", () -> c.show());
    }

    private static void showWithOneFrameNotRendered() {
        KeyframeCourt c = filmed(24);
        c.cut(1, 24, 24);
        A.isNotNow("22 the last frame", () -> c.show());
        c.cut(0, 119, 119);
        c.uncut(2);
        A.isNotNow("22 frame 119, as the first one", () -> c.show());
        c.uncut(0);
        A.is("22 without it", 0, () -> c.show());
    }

    private static void showWithOneVoidFrame() {
        KeyframeCourt c = filmed(120);
        c.key(0, 1, 0, 0, 1, false);
        A.is("3 the last frame", 1, () -> c.key(0, 1, 119, 1, 1, false));
        A.isNotNow("22 the last frame is void", () -> c.show());
        c.unkey(0, 1, 119);
        A.is("3 the first frame", 1, () -> c.key(0, 1, 0, 1, 1, false) + c.key(0, 1, 1, 0, 1, false));
        A.isNotNow("22 the first frame is void", () -> c.show());
        c.key(0, 1, 0, 0, 1, false);
        A.is("22 all stand", 0, () -> c.show());
    }

    private static void showWithVoidFramesNotNeeded() {
        KeyframeCourt c = filmed(48);
        c.setRate(1);
        c.key(0, 0, 24, 9, 1, false);
        A.isNotNow("22 24 frames are void", () -> c.show());
        c.cut(0, 0, 23);
        c.uncut(1);
        A.is("14 they are void still", 24, () -> c.voids());
        A.is("22 they are not in the film", 1, () -> c.show());
    }

    private static void showOfFramesThatStandAgain() {
        KeyframeCourt c = filmed(24);
        c.setRate(1);
        c.key(0, 0, 0, 8, 1, false);
        A.isNotNow("22 void", () -> c.show());
        c.key(0, 0, 0, 7, 1, false);
        A.is("22 they stand again", 1, () -> c.show());
    }

    private static void showBehindANewBone() {
        KeyframeCourt c = filmed(24);
        c.setRate(1);
        c.bone(0, 0, 0);
        A.isNotNow("22 void by the bone", () -> c.show());
        Courts.passNights(c, 1);
        A.is("22 rendered again", 1, () -> c.show());
    }

    private static void showOfOneFrame() {
        KeyframeCourt c = filmed(1);
        c.setRate(1000);
        A.is("22 no second", 0, () -> c.show());
        A.is("23 no second", 0, () -> c.money(1));
    }

    private static void showOf23Frames() {
        KeyframeCourt c = filmed(23);
        c.setRate(1000);
        A.is("22 no second", 0, () -> c.show());
        c.cut(1, 0, 0);
        A.is("22 with one of them again", 1000, () -> c.show());
    }

    private static void showAtRate0() {
        KeyframeCourt c = filmed(120);
        A.is("22 the rate at first", 0, () -> c.show());
        c.setRate(1);
        A.is("22 rate 1", 5, () -> c.show());
        c.setRate(0);
        A.is("22 rate 0", 0, () -> c.show());
        A.is("23 rate 1 alone", 5, () -> c.money(1));
    }

    private static void showAtTheHighestRate() {
        KeyframeCourt c = filmed(120);
        c.setRate(1000);
        A.is("22 five seconds", 5000, () -> c.show());
        A.is("23 five seconds", 5000, () -> c.money(1));
    }

    private static void showTwice() {
        KeyframeCourt c = filmed(24);
        c.setRate(3);
        A.is("22 once", 3, () -> c.show());
        c.setRate(4);
        A.is("22 twice", 4, () -> c.show());
        A.is("23 both", 7, () -> c.money(1));
    }

    private static void showOfNobodysFilm() {
        KeyframeCourt c = new KeyframeCourt();
        c.cut(0, 0, 119);
        c.machine(5);
        Courts.passNights(c, 4);
        c.setRate(1000);
        A.is("22 no artist is paid", 0, () -> c.show());
    }

    private static void refusedShow() {
        KeyframeCourt c = filmed(24);
        c.setRate(10);
        c.show();
        c.key(0, 0, 0, 8, 1, false);
        A.isNotNow("22 void", () -> c.show());
        A.isNotNow("22 still void", () -> c.show());
        A.is("23 paid once", 10, () -> c.money(1));
        A.is("20 the rate as it was", 10, () -> c.setRate(10));
    }

    private static void moneyRange() {
        KeyframeCourt c = new KeyframeCourt();
        for (int whose : new int[] {LOW, -1, 7, HIGH}) {
            A.isMissing("23 whose " + whose, () -> c.money(whose));
        }
        A.is("23 artist 0", 0, () -> c.money(0));
        A.is("23 artist 5", 0, () -> c.money(5));
        A.is("23 earned", 0, () -> c.money(6));
    }

    private static void moneyIsKeptApart() {
        KeyframeCourt c = Courts.withRoots(1);
        c.key(0, 0, 0, 0, 0, false);
        c.key(0, 1, 0, 0, 5, false);
        c.cut(0, 0, 23);
        c.machine(5);
        c.offer(100, 1);
        Courts.passNights(c, 2);
        c.setRate(7);
        A.is("22 two artists", 14, () -> c.show());
        int[] sums = {7, 0, 0, 0, 0, 7, 100};
        for (int whose = 0; whose < sums.length; whose++) {
            int w = whose;
            A.is("23 whose " + w, sums[w], () -> c.money(w));
        }
    }

    /** The longest film, each artist in each frame, at the highest rate. */
    private static KeyframeCourt dearest() {
        KeyframeCourt c = Courts.withRoots(2);
        for (int artist = 0; artist < 6; artist++) {
            c.key(artist / 3, artist % 3, 0, 1, artist, false);
        }
        for (int shot = 0; shot < 10; shot++) {
            c.cut(shot, 0, 119);
        }
        for (int machine = 0; machine < 4; machine++) {
            c.machine(5);
        }
        c.night(24);
        c.setRate(1000);
        return c;
    }

    private static void largestPayments() {
        KeyframeCourt c = dearest();
        A.is("22 six times 50 seconds", 300000, () -> c.show());
        A.is("23 artist 0", 50000, () -> c.money(0));
        A.is("23 artist 5", 50000, () -> c.money(5));
    }

    /** The object has had 24 calls; each show is one more, and two calls of money are the last. */
    private static void lastCallOfAll() {
        KeyframeCourt c = dearest();
        int shows = CALLS - 24 - 2;
        for (int show = 0; show < shows; show++) {
            A.is("22 show " + show, 300000, () -> c.show());
        }
        A.is("23 the last call but one", 50000 * shows, () -> c.money(0));
        A.is("23 the last call", 50000 * shows, () -> c.money(5));
    }
}
