/** For each promise of the document: ordinary inputs, its edges, and wrong inputs. */
public final class PromiseTests {
    private static final int LOW = Integer.MIN_VALUE;
    private static final int HIGH = Integer.MAX_VALUE;
    private static final Answers A = new Answers();

    public static void main(String[] args) {
        newObject();
        bone();
        eightBones();
        boneMakesVoid();
        key();
        keyLimit();
        keyVoids();
        unkey();
        otherKeysStayAsTheyAre();
        value();
        span();
        keyAt();
        place();
        artists();
        cut();
        uncut();
        shown();
        state();
        voids();
        machine();
        offer();
        nightRenders();
        nightRests();
        nightSells();
        nightSellsTenOffers();
        heat();
        setRate();
        seconds();
        show();
        money();
        refusalsChangeNothing();
        A.close("PromiseTests");
    }

    private static void newObject() {
        KeyframeCourt c = new KeyframeCourt();
        A.isMissing("1 no bone", () -> c.value(0, 0, 0));
        A.isMissing("1 no key", () -> c.keyAt(0));
        A.isMissing("1 no shot", () -> c.uncut(0));
        A.isMissing("1 no frame in the film", () -> c.shown(0));
        A.isMissing("1 no machine", () -> c.heat(0));
        A.is("1 no void", 0, () -> c.voids());
        A.is("1 no void by all", 0, () -> c.voidsByAll());
        A.is("1 nothing rendered", 0, () -> c.state(0));
        A.is("1 nothing to do at night", 0, () -> c.night(24));
        A.is("1 the rate", 0, () -> c.setRate(7));
        for (int whose = 0; whose <= 6; whose++) {
            int w = whose;
            A.is("1 no money", 0, () -> c.money(w));
        }
        KeyframeCourt other = new KeyframeCourt();
        A.is("1 objects are apart", 0, () -> other.setRate(0));
    }

    private static void bone() {
        KeyframeCourt c = new KeyframeCourt();
        A.isMissing("2 parent 0 of none", () -> c.bone(0, 0, 0));
        A.isMissing("2 parent -2", () -> c.bone(-2, 0, 0));
        A.isMissing("2 parent goes ahead of x", () -> c.bone(0, 101, 0));
        A.isUnfit("2 x 101", () -> c.bone(-1, 101, 0));
        A.isUnfit("2 x -101", () -> c.bone(-1, -101, 0));
        A.isUnfit("2 y 101", () -> c.bone(-1, 0, 101));
        A.isUnfit("2 y -101", () -> c.bone(-1, 0, -101));
        A.isUnfit("2 x lowest", () -> c.bone(-1, LOW, 0));
        A.isUnfit("2 y highest", () -> c.bone(-1, 0, HIGH));
        A.is("2 first", 0, () -> c.bone(-1, -100, 100));
        A.isMissing("2 a bone hangs not on itself", () -> c.bone(1, 0, 0));
        A.is("2 second", 1, () -> c.bone(0, 100, -100));
        A.is("2 another root", 2, () -> c.bone(-1, 0, 0));
        for (int number = 3; number < 8; number++) {
            int n = number;
            A.is("2 bone", n, () -> c.bone(n - 1, 0, 0));
        }
        A.isNotNow("2 a ninth", () -> c.bone(-1, 0, 0));
        A.isNotNow("2 a ninth on a bone", () -> c.bone(7, 0, 0));
        A.isUnfit("2 x goes ahead of the limit", () -> c.bone(-1, 101, 0));
        A.isMissing("2 parent goes ahead of the limit", () -> c.bone(8, 0, 0));
        A.isMissing("2 parent highest", () -> c.bone(HIGH, 0, 0));
        A.isMissing("2 parent lowest", () -> c.bone(LOW, 0, 0));
        A.is("2 offset of the first", 10000 * 4900 + 5100, () -> c.place(0, 0));
    }

    private static void eightBones() {
        KeyframeCourt c = Courts.withRoots(1);
        for (int number = 1; number < 8; number++) {
            c.bone(number - 1, 1, 0);
        }
        c.key(7, 2, 0, 1, 4, false);
        c.key(0, 2, 0, 1, 2, false);
        c.cut(0, 0, 4);
        c.machine(5);
        A.is("9 of eight bones", 1 << 4 | 1 << 2, () -> c.artists(0));
        A.is("8 of the eighth", Courts.at(0, 7), () -> c.place(7, 119));
        A.is("18 with eight bones", 5000, () -> c.night(1));
        A.is("3 of the eighth", 5, () -> c.key(7, 2, 119, 0, 4, false) + c.key(7, 2, 0, 2, 4, false));
        A.is("15 of the eighth", 5, () -> c.voidsByAll());
    }

    private static void boneMakesVoid() {
        KeyframeCourt c = new KeyframeCourt();
        c.cut(0, 0, 3);
        c.machine(5);
        A.is("2 frames without bones", 4000, () -> c.night(1));
        A.is("2 they stand", 11, () -> c.state(3));
        A.is("2 a new bone", 0, () -> c.bone(-1, 0, 0));
        A.is("2 all are void", 4, () -> c.voids());
        A.is("2 all are void by all", 4, () -> c.voidsByAll());
        A.is("2 a key changes nothing for them", 0, () -> c.key(0, 0, 0, 5, 0, false));
        A.is("2 rendered again", 4000, () -> c.night(1));
        A.is("2 none is void", 0, () -> c.voids());
        c.bone(-1, 0, 0);
        A.is("2 void at another bone", 4, () -> c.voids());
        A.is("2 unkey brings none back", 0, () -> c.unkey(0, 0, 0));
        A.is("2 key brings none back", 0, () -> c.key(0, 0, 0, 5, 0, false));
    }

    private static void key() {
        KeyframeCourt c = Courts.withRoots(1);
        A.isMissing("3 bone -1", () -> c.key(-1, 0, 0, 0, 0, false));
        A.isMissing("3 bone 1", () -> c.key(1, 0, 0, 0, 0, false));
        A.isMissing("3 bone highest", () -> c.key(HIGH, 0, 0, 0, 0, false));
        A.isMissing("3 channel -1", () -> c.key(0, -1, 0, 0, 0, false));
        A.isMissing("3 channel 3", () -> c.key(0, 3, 0, 0, 0, false));
        A.isMissing("3 frame -1", () -> c.key(0, 0, -1, 0, 0, false));
        A.isMissing("3 frame 120", () -> c.key(0, 0, 120, 0, 0, false));
        A.isMissing("3 artist -1", () -> c.key(0, 0, 0, 0, -1, false));
        A.isMissing("3 artist 6", () -> c.key(0, 0, 0, 0, 6, false));
        A.isMissing("3 artist goes ahead of value", () -> c.key(0, 0, 0, 201, 6, false));
        A.isMissing("3 frame goes ahead of soft", () -> c.key(0, 2, 120, 0, 0, true));
        A.isUnfit("3 x 201", () -> c.key(0, 0, 0, 201, 0, false));
        A.isUnfit("3 x -201", () -> c.key(0, 0, 0, -201, 0, true));
        A.isUnfit("3 y 201", () -> c.key(0, 1, 0, 201, 0, true));
        A.isUnfit("3 y -201", () -> c.key(0, 1, 0, -201, 0, false));
        A.isUnfit("3 turn 4", () -> c.key(0, 2, 0, 4, 0, false));
        A.isUnfit("3 turn -1", () -> c.key(0, 2, 0, -1, 0, false));
        A.isUnfit("3 soft turn", () -> c.key(0, 2, 0, 3, 0, true));
        A.isMissing("3 none was set", () -> c.keyAt(0));
        A.is("3 x -200", 0, () -> c.key(0, 0, 0, -200, 0, true));
        A.is("3 x 200", 0, () -> c.key(0, 0, 119, 200, 5, false));
        A.is("3 y 200", 0, () -> c.key(0, 1, 119, 200, 5, true));
        A.is("3 turn 3", 0, () -> c.key(0, 2, 0, 3, 1, false));
        A.is("3 turn 0", 0, () -> c.key(0, 2, 1, 0, 1, false));
        A.is("3 in place of the one there", 0, () -> c.key(0, 0, 0, -100, 3, false));
        A.is("3 its value", -100, () -> c.value(0, 0, 0));
        A.is("3 it is hard", -100, () -> c.value(0, 0, 118));
        A.is("3 its artist", 1 << 3 | 1 << 5 | 1 << 1, () -> c.artists(50));
        A.isMissing("3 five keys alone", () -> c.keyAt(5));
    }

    private static void keyLimit() {
        KeyframeCourt c = Courts.withRoots(1);
        for (int i = 0; i < 80; i++) {
            c.key(0, i % 2, i, i, 0, false);
        }
        A.isNotNow("3 an 81st key", () -> c.key(0, 0, 119, 0, 0, false));
        A.isNotNow("3 an 81st key of another channel", () -> c.key(0, 2, 0, 0, 0, false));
        A.isUnfit("3 value goes ahead of the limit", () -> c.key(0, 0, 119, 201, 0, false));
        A.isMissing("3 artist goes ahead of the limit", () -> c.key(0, 0, 119, 0, 6, false));
        A.is("3 in place of one of 80", 0, () -> c.key(0, 1, 79, -3, 2, true));
        A.is("3 its value", -3, () -> c.value(0, 1, 119));
        A.is("3 the last of 80", 1000 + 79, () -> c.keyAt(79));
        A.isMissing("3 80 keys alone", () -> c.keyAt(80));
        A.is("4 one of 80 goes", 0, () -> c.unkey(0, 0, 0));
        A.is("3 room for one", 0, () -> c.key(0, 2, 0, 1, 0, false));
        A.isNotNow("3 no more room", () -> c.key(0, 0, 0, 0, 0, false));
    }

    private static void keyVoids() {
        KeyframeCourt c = Courts.rendered();
        A.is("3 key of 0 makes none void", 0, () -> c.key(0, 0, 50, 0, 0, false));
        A.is("3 all behind", 60, () -> c.key(0, 0, 60, 1, 0, false));
        A.is("3 less of them", -20, () -> c.key(0, 0, 100, 0, 0, false));
        A.is("3 void twice counts once", 10, () -> c.key(0, 1, 0, 4, 0, false) - 70);
        A.is("3 one channel right again is not enough", 0, () -> c.key(0, 0, 60, 0, 0, false));
        A.is("3 all right again", -120, () -> c.key(0, 1, 0, 0, 0, false));
        A.is("3 another artist makes none void", 0, () -> c.key(0, 1, 0, 0, 5, false));
        A.is("3 softness alone makes none void", 0, () -> c.key(0, 1, 0, 0, 5, true));
        A.is("3 a turn makes void", 120, () -> c.key(0, 2, 9, 1, 5, false));
        A.is("3 some and some", -119, () -> c.key(0, 2, 10, 0, 5, false)
                + c.key(0, 2, 8, 0, 5, false));
        c.uncut(0);
        A.is("3 frames that are not needed count", 10, () -> c.key(0, 0, 90, 3, 0, false));
    }

    private static void unkey() {
        KeyframeCourt c = Courts.rendered();
        A.isMissing("4 no key", () -> c.unkey(0, 0, 0));
        c.key(0, 0, 10, 8, 0, true);
        c.key(0, 0, 20, 0, 0, false);
        c.night(24);
        c.night(24);
        A.isMissing("4 bone 1", () -> c.unkey(1, 0, 10));
        A.isMissing("4 bone -1", () -> c.unkey(-1, 0, 10));
        A.isMissing("4 channel -1", () -> c.unkey(0, -1, 10));
        A.isMissing("4 channel 3", () -> c.unkey(0, 3, 10));
        A.isMissing("4 channel 1 has none", () -> c.unkey(0, 1, 10));
        A.isMissing("4 frame -1", () -> c.unkey(0, 0, -1));
        A.isMissing("4 frame 120", () -> c.unkey(0, 0, 120));
        A.isMissing("4 frame 11 has none", () -> c.unkey(0, 0, 11));
        A.isMissing("4 all highest", () -> c.unkey(HIGH, HIGH, HIGH));
        A.is("4 none is void", 0, () -> c.voids());
        // Frame 19 was 0 already: 8 and -72 / 10, rounded down.
        A.is("4 0 ahead of 19", 19, () -> c.unkey(0, 0, 10));
        A.isMissing("4 it is gone", () -> c.unkey(0, 0, 10));
        A.is("4 the other is the first", 20, () -> c.keyAt(0));
        A.is("4 its span", 119, () -> c.span(0, 0, 20));
        A.is("4 without keys 0", 0, () -> c.unkey(0, 0, 20));
        A.is("4 the value is 0", 0, () -> c.value(0, 0, 119));
        A.is("4 back again up to 10", 90, () -> c.key(0, 0, 10, 8, 0, true));
        A.is("4 stand again", -109, () -> c.key(0, 0, 20, 0, 0, true));
        c.bone(0, 0, 0);
        c.key(1, 0, 30, 0, 0, false);
        A.isMissing("4 channel 3 is not the next bone's first", () -> c.unkey(0, 3, 30));
        A.isMissing("4 channel -3 is not the last bone's first", () -> c.unkey(1, -3, 20));
        A.isMissing("4 frame 3030 is not the next bone's", () -> c.unkey(0, 0, 3030));
    }

    private static void otherKeysStayAsTheyAre() {
        KeyframeCourt c = Courts.withRoots(1);
        c.key(0, 0, 20, 10, 1, true);
        c.key(0, 0, 30, 20, 2, false);
        c.key(0, 0, 10, 0, 3, false);
        A.is("3 9 the artist of a later key", 1 << 1, () -> c.artists(20));
        A.is("3 9 the artist of the last key", 1 << 2, () -> c.artists(30));
        A.is("3 5 a later key is still soft", 15, () -> c.value(0, 0, 25));
        A.is("3 5 the new one is hard", 0, () -> c.value(0, 0, 19));
        c.unkey(0, 0, 10);
        A.is("4 9 the artist of a later key", 1 << 1, () -> c.artists(20));
        A.is("4 5 a later key is still soft", 15, () -> c.value(0, 0, 25));
        A.is("4 5 the last key is still hard", 20, () -> c.value(0, 0, 119));
        A.is("4 9 the artist of the last key", 1 << 2, () -> c.artists(119));
    }

    private static void value() {
        KeyframeCourt c = Courts.withRoots(1);
        A.is("5 without keys", 0, () -> c.value(0, 1, 119));
        c.key(0, 1, 10, -7, 0, true);
        A.is("5 ahead of the first", -7, () -> c.value(0, 1, 0));
        A.is("5 soft without a later key", -7, () -> c.value(0, 1, 119));
        c.key(0, 1, 13, -8, 0, false);
        c.key(0, 1, 20, 13, 0, true);
        c.key(0, 1, 22, 16, 0, true);
        A.is("5 at a soft key", -7, () -> c.value(0, 1, 10));
        A.is("5 rounded down below 0", -8, () -> c.value(0, 1, 11));
        A.is("5 rounded down below 0 again", -8, () -> c.value(0, 1, 12));
        A.is("5 at a hard key", -8, () -> c.value(0, 1, 13));
        A.is("5 hard holds", -8, () -> c.value(0, 1, 19));
        A.is("5 at the next", 13, () -> c.value(0, 1, 20));
        A.is("5 rounded down above 0", 14, () -> c.value(0, 1, 21));
        A.is("5 the last", 16, () -> c.value(0, 1, 22));
        A.is("5 behind the last", 16, () -> c.value(0, 1, 119));
        A.is("5 another channel", 0, () -> c.value(0, 0, 21));
        A.is("5 another channel", 0, () -> c.value(0, 2, 21));
        c.key(0, 0, 5, 50, 0, true);
        A.is("5 a later key of the next channel is nothing", 50, () -> c.value(0, 0, 8));
        c.unkey(0, 0, 5);
        c.key(0, 0, 0, 200, 0, true);
        c.key(0, 0, 119, -200, 0, true);
        A.is("5 a long way", -197, () -> c.value(0, 0, 118));
        A.is("5 a long way, halved", -2, () -> c.value(0, 0, 60));
        A.isMissing("5 bone 1", () -> c.value(1, 0, 0));
        A.isMissing("5 bone -1", () -> c.value(-1, 0, 0));
        A.isMissing("5 channel 3", () -> c.value(0, 3, 0));
        A.isMissing("5 channel -1", () -> c.value(0, -1, 0));
        A.isMissing("5 frame 120", () -> c.value(0, 0, 120));
        A.isMissing("5 frame -1", () -> c.value(0, 0, -1));
        A.isMissing("5 all lowest", () -> c.value(LOW, LOW, LOW));
        A.isMissing("5 a product that wraps", () -> c.value(0, 0, 1 << 30));
    }

    private static void span() {
        KeyframeCourt c = Courts.withRoots(1);
        c.bone(0, 0, 0);
        c.key(0, 1, 30, 1, 0, false);
        A.is("6 an only key has all", 119, () -> c.span(0, 1, 30));
        c.key(0, 1, 40, 2, 0, true);
        c.key(0, 1, 50, 3, 0, true);
        c.key(0, 1, 60, 4, 0, false);
        c.key(0, 1, 61, 5, 0, false);
        A.is("6 the first", 39, () -> c.span(0, 1, 30));
        A.is("6 behind a hard one", 40049, () -> c.span(0, 1, 40));
        A.is("6 behind a soft one", 41059, () -> c.span(0, 1, 50));
        A.is("6 hard behind a soft one", 51060, () -> c.span(0, 1, 60));
        A.is("6 the last", 61119, () -> c.span(0, 1, 61));
        c.key(0, 0, 119, 1, 0, true);
        c.key(0, 2, 0, 1, 0, false);
        c.key(1, 0, 7, 1, 0, true);
        A.is("6 soft keys of other channels are nothing", 119, () -> c.span(0, 2, 0));
        A.is("6 the first of the next bone", 119, () -> c.span(1, 0, 7));
        A.is("6 the first is still so", 39, () -> c.span(0, 1, 30));
        A.is("6 the last is still so", 61119, () -> c.span(0, 1, 61));
        A.isMissing("6 no key", () -> c.span(0, 1, 31));
        A.isMissing("6 no key of this bone", () -> c.span(1, 1, 30));
        A.isMissing("6 bone 2", () -> c.span(2, 1, 30));
        A.isMissing("6 bone -1", () -> c.span(-1, 1, 30));
        A.isMissing("6 channel 3", () -> c.span(0, 3, 7));
        A.isMissing("6 channel -1", () -> c.span(0, -1, 30));
        A.isMissing("6 frame 120", () -> c.span(0, 1, 120));
        A.isMissing("6 frame -1", () -> c.span(0, 1, -1));
        A.isMissing("6 a frame that is the next channel's code", () -> c.span(0, 0, 1030));
    }

    private static void keyAt() {
        KeyframeCourt c = Courts.withRoots(1);
        c.bone(0, 0, 0);
        c.key(1, 2, 119, 1, 0, false);
        c.key(1, 0, 5, 1, 0, false);
        c.key(0, 2, 7, 1, 0, false);
        c.key(0, 0, 9, 1, 0, false);
        c.key(0, 0, 8, 1, 0, false);
        A.is("7 first", 8, () -> c.keyAt(0));
        A.is("7 by frames", 9, () -> c.keyAt(1));
        A.is("7 by channels", 2007, () -> c.keyAt(2));
        A.is("7 by bones", 3005, () -> c.keyAt(3));
        A.is("7 last", 5119, () -> c.keyAt(4));
        A.isMissing("7 behind the last", () -> c.keyAt(5));
        A.isMissing("7 place -1", () -> c.keyAt(-1));
        A.isMissing("7 highest", () -> c.keyAt(HIGH));
        A.isMissing("7 lowest", () -> c.keyAt(LOW));
        c.unkey(0, 0, 9);
        A.is("7 moved up", 2007, () -> c.keyAt(1));
        A.isMissing("7 one less", () -> c.keyAt(4));
    }

    private static void place() {
        KeyframeCourt c = new KeyframeCourt();
        c.bone(-1, 10, 20);
        c.bone(0, 3, 4);
        c.bone(1, 1, 0);
        c.bone(-1, -100, -100);
        A.is("8 a root", Courts.at(10, 20), () -> c.place(0, 0));
        A.is("8 a child", Courts.at(13, 24), () -> c.place(1, 0));
        A.is("8 a grandchild", Courts.at(14, 24), () -> c.place(2, 0));
        c.key(0, 2, 10, 1, 0, false);
        c.key(0, 2, 20, 2, 0, false);
        c.key(0, 2, 30, 3, 0, false);
        c.key(0, 2, 40, 0, 0, false);
        A.is("8 its own turn moves not the root", Courts.at(10, 20), () -> c.place(0, 10));
        A.is("8 a quarter", Courts.at(6, 23), () -> c.place(1, 10));
        A.is("8 a half", Courts.at(7, 16), () -> c.place(1, 20));
        A.is("8 three quarters", Courts.at(14, 17), () -> c.place(1, 30));
        A.is("8 none", Courts.at(13, 24), () -> c.place(1, 40));
        c.key(1, 2, 0, 3, 0, false);
        A.is("8 headings add up, by 4", Courts.at(7, 23), () -> c.place(2, 10));
        A.is("8 headings add up", Courts.at(7, 17), () -> c.place(2, 20));
        c.key(1, 0, 0, 100, 0, false);
        c.key(1, 1, 0, -50, 0, false);
        A.is("8 values turn too", Courts.at(10 - 4 + 50, 20 + 103), () -> c.place(1, 10));
        A.is("8 another root", Courts.at(-100, -100), () -> c.place(3, 119));
        A.isMissing("8 bone 4", () -> c.place(4, 0));
        A.isMissing("8 bone -1", () -> c.place(-1, 0));
        A.isMissing("8 frame 120", () -> c.place(0, 120));
        A.isMissing("8 frame -1", () -> c.place(0, -1));
        A.isMissing("8 both highest", () -> c.place(HIGH, HIGH));
    }

    private static void artists() {
        KeyframeCourt c = Courts.withRoots(1);
        c.bone(0, 0, 0);
        A.is("9 none", 0, () -> c.artists(0));
        c.key(0, 0, 10, 5, 0, true);
        c.key(0, 0, 20, 5, 1, false);
        c.key(0, 0, 30, 5, 2, true);
        c.key(1, 2, 119, 0, 5, false);
        A.is("9 ahead of the first", 33, () -> c.artists(0));
        A.is("9 at a soft one", 33, () -> c.artists(10));
        A.is("9 behind a soft one", 35, () -> c.artists(11));
        A.is("9 ahead of the next", 35, () -> c.artists(19));
        A.is("9 at a hard one", 34, () -> c.artists(20));
        A.is("9 behind a hard one", 34, () -> c.artists(29));
        A.is("9 at the last soft one", 36, () -> c.artists(30));
        A.is("9 behind the last soft one", 36, () -> c.artists(119));
        A.isMissing("9 frame 120", () -> c.artists(120));
        A.isMissing("9 frame -1", () -> c.artists(-1));
        c.unkey(1, 2, 119);
        A.is("9 gone with the key", 4, () -> c.artists(119));
    }

    private static void cut() {
        KeyframeCourt c = new KeyframeCourt();
        A.isMissing("10 place 1 of none", () -> c.cut(1, 0, 0));
        A.isMissing("10 place -1", () -> c.cut(-1, 0, 0));
        A.isMissing("10 first -1", () -> c.cut(0, -1, 0));
        A.isMissing("10 first 120", () -> c.cut(0, 120, 0));
        A.isMissing("10 last 120", () -> c.cut(0, 0, 120));
        A.isMissing("10 last -1", () -> c.cut(0, 0, -1));
        A.isUnfit("10 last less than first", () -> c.cut(0, 5, 4));
        A.isMissing("10 place goes ahead of it", () -> c.cut(1, 5, 4));
        A.is("10 one frame", 1, () -> c.cut(0, 119, 119));
        A.is("10 all frames, ahead", 121, () -> c.cut(0, 0, 119));
        A.is("10 between", 123, () -> c.cut(1, 7, 8));
        A.is("10 the first of all", 0, () -> c.shown(0));
        A.is("10 the one between", 7, () -> c.shown(120));
        A.is("10 the last", 119, () -> c.shown(122));
        for (int shots = 3; shots < 10; shots++) {
            int s = shots;
            A.is("10 at the end", 121 + s, () -> c.cut(s, 0, 0));
        }
        A.isNotNow("10 an 11th shot", () -> c.cut(10, 0, 0));
        A.isNotNow("10 an 11th shot ahead", () -> c.cut(0, 0, 0));
        A.isUnfit("10 last goes ahead of the limit", () -> c.cut(0, 1, 0));
        A.isMissing("10 place goes ahead of the limit", () -> c.cut(11, 0, 0));
    }

    private static void uncut() {
        KeyframeCourt c = new KeyframeCourt();
        A.isMissing("11 no shot", () -> c.uncut(0));
        c.cut(0, 0, 9);
        c.cut(1, 5, 14);
        c.cut(2, 100, 102);
        A.isMissing("11 shot 3", () -> c.uncut(3));
        A.isMissing("11 shot -1", () -> c.uncut(-1));
        A.isMissing("11 shot highest", () -> c.uncut(HIGH));
        A.is("11 the first", 13, () -> c.uncut(0));
        A.is("11 frame 5 is still needed", 10, () -> c.state(5));
        A.is("11 frame 4 is not", 0, () -> c.state(4));
        A.is("11 what is first then", 5, () -> c.shown(0));
        A.is("11 the last", 10, () -> c.uncut(1));
        A.is("11 the only one", 0, () -> c.uncut(0));
        A.isMissing("11 none left", () -> c.uncut(0));
        for (int shot = 0; shot < 10; shot++) {
            c.cut(shot, shot, shot);
        }
        A.is("11 one of ten", 9, () -> c.uncut(9));
        A.is("11 room for one", 10, () -> c.cut(9, 0, 0));
    }

    private static void shown() {
        KeyframeCourt c = new KeyframeCourt();
        c.cut(0, 10, 12);
        c.cut(1, 11, 11);
        c.cut(2, 10, 11);
        int[] frames = {10, 11, 12, 11, 10, 11};
        for (int place = 0; place < frames.length; place++) {
            int p = place;
            A.is("12 place " + p, frames[p], () -> c.shown(p));
        }
        A.isMissing("12 behind the last", () -> c.shown(6));
        A.isMissing("12 place -1", () -> c.shown(-1));
        A.isMissing("12 highest", () -> c.shown(HIGH));
        A.isMissing("12 lowest", () -> c.shown(LOW));
    }

    private static void state() {
        KeyframeCourt c = Courts.withRoots(1);
        c.machine(1);
        A.is("13 not rendered", 0, () -> c.state(119));
        c.cut(0, 3, 4);
        A.is("13 needed", 10, () -> c.state(3));
        A.is("13 ahead of the shot", 0, () -> c.state(2));
        A.is("13 behind the shot", 0, () -> c.state(5));
        c.night(1);
        A.is("13 stands", 11, () -> c.state(3));
        A.is("13 not yet", 10, () -> c.state(4));
        c.key(0, 0, 0, 1, 0, false);
        A.is("13 void", 12, () -> c.state(3));
        A.is("13 not rendered is not void", 10, () -> c.state(4));
        c.uncut(0);
        A.is("13 void and not needed", 2, () -> c.state(3));
        c.unkey(0, 0, 0);
        A.is("13 stands and is not needed", 1, () -> c.state(3));
        A.isMissing("13 frame 120", () -> c.state(120));
        A.isMissing("13 frame -1", () -> c.state(-1));
        A.isMissing("13 lowest", () -> c.state(LOW));
    }

    private static void voids() {
        KeyframeCourt c = Courts.rendered();
        both(c, "14 15 none", 0);
        c.key(0, 0, 100, 5, 0, true);
        both(c, "14 15 all", 120);
        c.key(0, 0, 90, 0, 0, false);
        both(c, "14 15 some", 20);
        c.uncut(0);
        both(c, "14 15 not needed", 20);
        c.cut(0, 100, 104);
        c.night(1);
        both(c, "14 15 some rendered again", 15);
        c.unkey(0, 0, 100);
        both(c, "14 15 others are void then", 5);
        c.bone(0, 0, 0);
        both(c, "14 15 all by a bone", 120);
        c.night(1);
        both(c, "14 15 all but five", 115);
    }

    private static void both(KeyframeCourt c, String what, int want) {
        A.is(what, want, () -> c.voids());
        A.is(what + " by all", want, () -> c.voidsByAll());
    }

    private static void machine() {
        KeyframeCourt c = new KeyframeCourt();
        A.isUnfit("16 speed 0", () -> c.machine(0));
        A.isUnfit("16 speed 6", () -> c.machine(6));
        A.isUnfit("16 speed lowest", () -> c.machine(LOW));
        A.is("16 speed 1", 0, () -> c.machine(1));
        A.is("16 speed 5", 1, () -> c.machine(5));
        A.is("16 third", 2, () -> c.machine(2));
        A.is("16 fourth", 3, () -> c.machine(3));
        A.isNotNow("16 a fifth", () -> c.machine(1));
        A.isUnfit("16 speed goes ahead of the limit", () -> c.machine(6));
        c.cut(0, 0, 119);
        A.is("16 speeds", 11000, () -> c.night(1));
        A.is("16 speed of 0", 10, () -> c.heat(0));
        A.is("16 speed of 1", 50, () -> c.heat(1));
        A.is("16 speed of 2", 20, () -> c.heat(2));
        A.is("16 speed of 3", 30, () -> c.heat(3));
    }

    private static void offer() {
        KeyframeCourt c = new KeyframeCourt();
        A.isUnfit("17 price 0", () -> c.offer(0, 1));
        A.isUnfit("17 price 101", () -> c.offer(101, 1));
        A.isUnfit("17 hours 0", () -> c.offer(1, 0));
        A.isUnfit("17 hours 51", () -> c.offer(1, 51));
        A.isUnfit("17 both lowest", () -> c.offer(LOW, LOW));
        A.is("17 least", 0, () -> c.offer(1, 1));
        A.is("17 most", 1, () -> c.offer(100, 50));
        c.machine(1);
        c.machine(1);
        c.machine(1);
        c.machine(1);
        for (int night = 0; night < 3; night++) {
            c.night(24);
        }
        A.is("17 all were sold", 5001, () -> c.money(6));
        for (int number = 2; number < 10; number++) {
            int n = number;
            A.is("17 number", n, () -> c.offer(1, 1));
        }
        A.isNotNow("17 an 11th, though some have no hours", () -> c.offer(1, 1));
        A.isUnfit("17 price goes ahead of the limit", () -> c.offer(101, 1));
    }

    private static void nightRenders() {
        KeyframeCourt c = Courts.withRoots(1);
        c.cut(0, 50, 59);
        c.cut(1, 10, 12);
        A.isUnfit("18 hours 0", () -> c.night(0));
        A.isUnfit("18 hours 25", () -> c.night(25));
        A.isUnfit("18 hours lowest", () -> c.night(LOW));
        A.isUnfit("18 hours highest", () -> c.night(HIGH));
        A.is("18 no machine", 0, () -> c.night(24));
        c.machine(2);
        c.machine(3);
        A.is("18 the lowest frames", 5000, () -> c.night(1));
        A.is("18 frame 12", 11, () -> c.state(12));
        A.is("18 frame 51", 11, () -> c.state(51));
        A.is("18 frame 52", 10, () -> c.state(52));
        A.is("18 heat by frames", 20, () -> c.heat(0));
        c.key(0, 0, 11, 9, 0, false);
        c.key(0, 0, 12, 0, 0, false);
        A.is("18 void ones go again", 5000, () -> c.night(1));
        A.is("18 frame 10 stands again", 11, () -> c.state(10));
        A.is("18 frame 54", 11, () -> c.state(54));
        A.is("18 frame 55", 10, () -> c.state(55));
        A.is("18 the last ones", 5000, () -> c.night(5));
        A.is("18 nothing is left", 0, () -> c.night(24));
        A.is("18 frames stand", 11, () -> c.state(59));
    }

    private static void nightRests() {
        KeyframeCourt c = Courts.withRoots(1);
        c.cut(0, 0, 119);
        c.machine(5);
        A.is("18 four hours", 20000, () -> c.night(4));
        A.is("18 19 it rests", 201, () -> c.heat(0));
        A.is("18 resting hours", 0, () -> c.night(2));
        A.is("18 19 it still rests", 121, () -> c.heat(0));
        A.is("18 the last hour of rest", 0, () -> c.night(1));
        A.is("18 19 it rests no more", 80, () -> c.heat(0));
        A.is("18 back to work", 5000, () -> c.night(1));
        A.is("18 19 warm", 130, () -> c.heat(0));
        A.is("18 19 over 20", 10000, () -> c.night(2));
        A.is("18 19 it rests at 23", 231, () -> c.heat(0));
        c.night(4);
        A.is("18 19 7 is less than 8", 70, () -> c.heat(0));
        c.uncut(0);
        A.is("18 nothing is needed", 0, () -> c.night(1));
        A.is("18 19 it cools", 30, () -> c.heat(0));
        c.night(1);
        A.is("18 19 to 0 at least", 0, () -> c.heat(0));
    }

    private static void nightSells() {
        KeyframeCourt c = Courts.withRoots(1);
        c.offer(5, 2);
        c.offer(9, 1);
        c.offer(9, 1);
        c.offer(5, 2);
        c.machine(5);
        c.cut(0, 0, 0);
        A.is("18 a frame goes ahead of an offer", 1000, () -> c.night(1));
        A.is("18 no money for it", 0, () -> c.money(6));
        A.is("18 highest price", 1, () -> c.night(1));
        A.is("18 23 earned", 9, () -> c.money(6));
        A.is("18 19 heat of selling", 40, () -> c.heat(0));
        A.is("18 the next hours", 3, () -> c.night(3));
        A.is("18 23 earned", 28, () -> c.money(6));
        c.offer(6, 1);
        A.is("18 a better offer", 1, () -> c.night(1));
        A.is("18 23 earned", 34, () -> c.money(6));
        A.is("18 19 16 is not hot", 160, () -> c.heat(0));
        c.machine(1);
        A.is("18 the last two hours", 2, () -> c.night(1));
        A.is("18 23 all earned", 44, () -> c.money(6));
        A.is("18 19 19 is not hot", 190, () -> c.heat(0));
        A.is("18 19 the other", 30, () -> c.heat(1));
        A.is("18 no offer left", 0, () -> c.night(1));
        A.is("18 19 it cools", 150, () -> c.heat(0));
        c.offer(1, 50);
        A.is("18 selling until hot", 4, () -> c.night(2));
        A.is("18 19 it rests from selling", 211, () -> c.heat(0));
        A.is("18 a resting one sells not", 1, () -> c.night(1));
        A.is("18 the other alone", 2, () -> c.night(2));
        A.is("18 19 9 is more than 8", 91, () -> c.heat(0));
        A.is("18 the other alone again", 1, () -> c.night(1));
        A.is("18 19 it rests no more at 5", 50, () -> c.heat(0));
    }

    private static void nightSellsTenOffers() {
        KeyframeCourt c = new KeyframeCourt();
        c.machine(1);
        for (int number = 0; number < 10; number++) {
            c.offer(20 - number, 1);
        }
        int earned = 0;
        for (int number = 0; number < 4; number++) {
            int due = earned += 20 - number;
            A.is("18 an hour is sold", 1, () -> c.night(1));
            A.is("18 23 the first has the highest price", due, () -> c.money(6));
        }
        A.is("18 the six others", 6, () -> c.night(24));
        A.is("18 none has hours left", 0, () -> c.night(24));
        A.is("23 all ten", 155, () -> c.money(6));
    }

    private static void heat() {
        KeyframeCourt c = new KeyframeCourt();
        A.isMissing("19 machine 0 of none", () -> c.heat(0));
        c.machine(1);
        A.is("19 at first", 0, () -> c.heat(0));
        A.isMissing("19 machine 1", () -> c.heat(1));
        A.isMissing("19 machine -1", () -> c.heat(-1));
        A.isMissing("19 highest", () -> c.heat(HIGH));
        A.isMissing("19 lowest", () -> c.heat(LOW));
    }

    private static void setRate() {
        KeyframeCourt c = new KeyframeCourt();
        A.isUnfit("20 rate -1", () -> c.setRate(-1));
        A.isUnfit("20 rate 1001", () -> c.setRate(1001));
        A.isUnfit("20 lowest", () -> c.setRate(LOW));
        A.isUnfit("20 highest", () -> c.setRate(HIGH));
        A.is("20 at first", 0, () -> c.setRate(1000));
        A.is("20 the one before", 1000, () -> c.setRate(0));
        A.is("20 the one before", 0, () -> c.setRate(5));
        A.is("20 the one before", 5, () -> c.setRate(5));
    }

    private static void seconds() {
        KeyframeCourt c = Courts.withRoots(1);
        c.key(0, 0, 24, 1, 1, false);
        c.key(0, 0, 48, 1, 2, true);
        c.key(0, 0, 60, 1, 3, false);
        A.is("21 no film", 0, () -> c.seconds(1));
        A.is("21 artist 0", 0, () -> c.seconds(0));
        c.cut(0, 0, 22);
        A.is("21 23 frames", 0, () -> c.seconds(1));
        c.cut(1, 23, 23);
        A.is("21 24 frames", 1, () -> c.seconds(1));
        c.cut(2, 0, 23);
        A.is("21 as often as they are in it", 2, () -> c.seconds(1));
        c.cut(3, 48, 60);
        c.cut(3, 49, 60);
        A.is("21 soft ones share", 0, () -> c.seconds(2));
        A.is("21 soft ones share", 1, () -> c.seconds(3));
        c.cut(3, 48, 48);
        A.is("21 24 of the soft one", 1, () -> c.seconds(2));
        c.key(0, 1, 0, 0, 3, false);
        A.is("21 each frame counts once for an artist", 3, () -> c.seconds(3));
        A.is("21 no key", 0, () -> c.seconds(5));
        A.isMissing("21 artist 6", () -> c.seconds(6));
        A.isMissing("21 artist -1", () -> c.seconds(-1));
        A.isMissing("21 highest", () -> c.seconds(HIGH));
    }

    private static void show() {
        KeyframeCourt c = Courts.withRoots(1);
        A.isNotNow("22 no film", () -> c.show());
        c.key(0, 0, 0, 0, 1, false);
        c.key(0, 1, 0, 0, 4, false);
        c.cut(0, 0, 47);
        c.cut(1, 10, 33);
        c.setRate(10);
        A.isNotNow("22 not rendered", () -> c.show());
        c.machine(5);
        c.machine(5);
        c.machine(5);
        c.night(3);
        A.isNotNow("22 some not rendered", () -> c.show());
        c.night(1);
        A.is("22 two artists, three seconds", 60, () -> c.show());
        A.is("22 23 paid", 30, () -> c.money(1));
        A.is("22 23 paid", 30, () -> c.money(4));
        A.is("22 23 not paid", 0, () -> c.money(0));
        c.setRate(1000);
        A.is("22 another rate", 6000, () -> c.show());
        A.is("22 23 both together", 3030, () -> c.money(1));
        c.key(0, 0, 47, 1, 2, false);
        A.isNotNow("22 one is void", () -> c.show());
        A.is("22 23 nothing was paid", 3030, () -> c.money(1));
        c.uncut(0);
        A.is("22 the void one is not in it", 2000, () -> c.show());
        c.uncut(0);
        A.isNotNow("22 no frame", () -> c.show());
        c.cut(0, 0, 0);
        A.is("22 one frame", 0, () -> c.show());
        c.key(0, 2, 0, 1, 0, false);
        c.key(0, 2, 1, 0, 0, false);
        A.isNotNow("22 frame 0 is void", () -> c.show());
    }

    private static void money() {
        KeyframeCourt c = new KeyframeCourt();
        A.isMissing("23 whose 7", () -> c.money(7));
        A.isMissing("23 whose -1", () -> c.money(-1));
        A.isMissing("23 highest", () -> c.money(HIGH));
        A.isMissing("23 lowest", () -> c.money(LOW));
        c.machine(1);
        c.offer(100, 2);
        c.night(1);
        A.is("23 earned", 100, () -> c.money(6));
        c.night(1);
        A.is("23 earned", 200, () -> c.money(6));
        A.is("23 no artist has it", 0, () -> c.money(5));
        c.bone(-1, 0, 0);
        c.key(0, 0, 0, 0, 5, false);
        c.key(0, 1, 0, 0, 0, false);
        c.cut(0, 0, 23);
        c.night(24);
        c.night(24);
        c.setRate(7);
        c.show();
        A.is("23 the last artist", 7, () -> c.money(5));
        A.is("23 the first artist", 7, () -> c.money(0));
        A.is("23 hours stay apart", 200, () -> c.money(6));
    }

    private static void refusalsChangeNothing() {
        KeyframeCourt c = Courts.rendered();
        c.key(0, 0, 60, 1, 0, true);
        c.setRate(3);
        A.isUnfit("a refused key", () -> c.key(0, 0, 60, 999, 1, false));
        A.isMissing("a refused key", () -> c.key(0, 0, 60, 0, 9, false));
        A.isUnfit("a refused rate", () -> c.setRate(1001));
        A.isUnfit("a refused shot", () -> c.cut(0, 9, 8));
        A.isUnfit("a refused bone", () -> c.bone(-1, 101, 0));
        A.isUnfit("a refused night", () -> c.night(25));
        A.isNotNow("a refused show", () -> c.show());
        A.is("the value", 1, () -> c.value(0, 0, 60));
        A.is("the artist", 1, () -> c.artists(60));
        A.is("the voids", 120, () -> c.voids());
        A.is("the film", 119, () -> c.shown(119));
        A.isMissing("the bones", () -> c.value(1, 0, 0));
        A.is("the rate", 3, () -> c.setRate(3));
    }
}
